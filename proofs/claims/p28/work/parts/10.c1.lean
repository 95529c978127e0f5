theorem eX0_known : yX0_known.cls = RX0 ∧ yX0_known.cls ≠ "java/lang/invoke/MethodHandle" ∧ yX0_known.cls ≠ "java/lang/invoke/VarHandle" ∧ (parseMethodDescriptor yX0_known.desc).map (fun d => d.parameters.length) = some 0 := by decide +kernel
def mX0_known (σ : St) : Option Int32 :=
some (σ.1 9 0)
set_option maxHeartbeats 4000000 in
set_option maxRecDepth 100000 in
theorem kX0_known (l : Launch) (D : va_G) (y : Nat → ClassId) (a t : Nat → Nat) (hI : AI a 37) (sz : Nat) (σ : St) (r : Int32) (hm : mX0_known σ = some r) : Met l yX0_known zX0_known { frames := 0, cells := 0, slots := 0, locals := 0 } (va_Pc [.ref (a 6)] (preW (wC y a) a 37 D y t σ sz)) (va_Qi (fun r' u => r' = r ∧ u = σ) (posW (wC y a) D) (AC a 37 sz)) 0 0 (AC a 37 sz) := by
  refine Met.ofW (cc := cX0_known) (maxL := 1) (ret := (some .int)) (by decide) rfl ?_
  intro p e s m args below meth c s₁ B hml hv
  obtain ⟨rfl, hsz, hP, hK, hF⟩ := hv
  have hx := B.exec
  have hb := B.bytes
  have hr := B.returns
  have hts := atoms_spec (ws := zX0_known) B.pre
  have hown : s.vm.findClass RX0 = some m.cls := findClass_of_methodNamed B.named
  have hlocks := B.notSynchronized
  subst hsz
  have l_f25 := hts _ (List.mem_cons_of_mem _ aF_X0_25)
  have h_X0 : ∀ w ∈ wsX00, w.before _ s = true := fun w hw => hts w (List.mem_cons_of_mem _ (hwX0 w hw))
  have hS : va_S (AC a 37 s.heap.size) s.heap s.heap [] := va_S.rf
  have hl := lv_entry ([.ref (a 6)]) (n := 1) (Nat.le_of_ble_eq_true rfl)
  rw [lg_entry_eq]
  generalize (lg_sl ([.ref (a 6)]) ++ List.replicate (1 - (lg_sl ([.ref (a 6)])).length) Slot.unset).toArray = ls at hl ⊢
  have hl : lv_has ls 1 [(0, .ref (a 6))] := hl
  unfold mX0_known at hm
  refine lv_aload_n hx hb dX0_known_0 rfl (lv_at hl 0 rfl) ?_
  refine gfX0_known hx hb h_X0 hown hK hP l_f25 dX0_known_1 ?_
  exact W.iret (v := σ.1 9 0) hx hb hr (fun T hT hW => ⟨⟨σ.1 9 0, σ, rfl, ⟨Option.some.inj hm, rfl⟩, by rw [posW, hT]; exact hP⟩, hS.F hT⟩) hS.2.2 dX0_known_4
theorem eX0_open : yX0_open.cls = RX0 ∧ yX0_open.cls ≠ "java/lang/invoke/MethodHandle" ∧ yX0_open.cls ≠ "java/lang/invoke/VarHandle" ∧ (parseMethodDescriptor yX0_open.desc).map (fun d => d.parameters.length) = some 0 := by decide +kernel
def mX0_open (σ : St) : Option Int32 :=
some (σ.1 10 0)
set_option maxHeartbeats 4000000 in
set_option maxRecDepth 100000 in
theorem kX0_open (l : Launch) (D : va_G) (y : Nat → ClassId) (a t : Nat → Nat) (hI : AI a 37) (sz : Nat) (σ : St) (r : Int32) (hm : mX0_open σ = some r) : Met l yX0_open zX0_open { frames := 0, cells := 0, slots := 0, locals := 0 } (va_Pc [.ref (a 6)] (preW (wC y a) a 37 D y t σ sz)) (va_Qi (fun r' u => r' = r ∧ u = σ) (posW (wC y a) D) (AC a 37 sz)) 0 0 (AC a 37 sz) := by
  refine Met.ofW (cc := cX0_open) (maxL := 1) (ret := (some .int)) (by decide) rfl ?_
  intro p e s m args below meth c s₁ B hml hv
  obtain ⟨rfl, hsz, hP, hK, hF⟩ := hv
  have hx := B.exec
  have hb := B.bytes
  have hr := B.returns
  have hts := atoms_spec (ws := zX0_open) B.pre
  have hown : s.vm.findClass RX0 = some m.cls := findClass_of_methodNamed B.named
  have hlocks := B.notSynchronized
  subst hsz
  have l_f28 := hts _ (List.mem_cons_of_mem _ aF_X0_28)
  have h_X0 : ∀ w ∈ wsX00, w.before _ s = true := fun w hw => hts w (List.mem_cons_of_mem _ (hwX0 w hw))
  have hS : va_S (AC a 37 s.heap.size) s.heap s.heap [] := va_S.rf
  have hl := lv_entry ([.ref (a 6)]) (n := 1) (Nat.le_of_ble_eq_true rfl)
  rw [lg_entry_eq]
  generalize (lg_sl ([.ref (a 6)]) ++ List.replicate (1 - (lg_sl ([.ref (a 6)])).length) Slot.unset).toArray = ls at hl ⊢
  have hl : lv_has ls 1 [(0, .ref (a 6))] := hl
  unfold mX0_open at hm
  refine lv_aload_n hx hb dX0_open_0 rfl (lv_at hl 0 rfl) ?_
  refine gfX0_open hx hb h_X0 hown hK hP l_f28 dX0_open_1 ?_
  exact W.iret (v := σ.1 10 0) hx hb hr (fun T hT hW => ⟨⟨σ.1 10 0, σ, rfl, ⟨Option.some.inj hm, rfl⟩, by rw [posW, hT]; exact hP⟩, hS.F hT⟩) hS.2.2 dX0_open_4
theorem eX0_innermost : yX0_innermost.cls = RX0 ∧ yX0_innermost.cls ≠ "java/lang/invoke/MethodHandle" ∧ yX0_innermost.cls ≠ "java/lang/invoke/VarHandle" ∧ (parseMethodDescriptor yX0_innermost.desc).map (fun d => d.parameters.length) = some 0 := by decide +kernel
def mX0_innermost (σ : St) : Option Int32 :=
some (σ.1 11 0)
set_option maxHeartbeats 4000000 in
set_option maxRecDepth 100000 in
theorem kX0_innermost (l : Launch) (D : va_G) (y : Nat → ClassId) (a t : Nat → Nat) (hI : AI a 37) (sz : Nat) (σ : St) (r : Int32) (hm : mX0_innermost σ = some r) : Met l yX0_innermost zX0_innermost { frames := 0, cells := 0, slots := 0, locals := 0 } (va_Pc [.ref (a 6)] (preW (wC y a) a 37 D y t σ sz)) (va_Qi (fun r' u => r' = r ∧ u = σ) (posW (wC y a) D) (AC a 37 sz)) 0 0 (AC a 37 sz) := by
  refine Met.ofW (cc := cX0_innermost) (maxL := 1) (ret := (some .int)) (by decide) rfl ?_
  intro p e s m args below meth c s₁ B hml hv
  obtain ⟨rfl, hsz, hP, hK, hF⟩ := hv
  have hx := B.exec
  have hb := B.bytes
  have hr := B.returns
  have hts := atoms_spec (ws := zX0_innermost) B.pre
  have hown : s.vm.findClass RX0 = some m.cls := findClass_of_methodNamed B.named
  have hlocks := B.notSynchronized
  subst hsz
  have l_f21 := hts _ (List.mem_cons_of_mem _ aF_X0_21)
  have h_X0 : ∀ w ∈ wsX00, w.before _ s = true := fun w hw => hts w (List.mem_cons_of_mem _ (hwX0 w hw))
  have hS : va_S (AC a 37 s.heap.size) s.heap s.heap [] := va_S.rf
  have hl := lv_entry ([.ref (a 6)]) (n := 1) (Nat.le_of_ble_eq_true rfl)
  rw [lg_entry_eq]
  generalize (lg_sl ([.ref (a 6)]) ++ List.replicate (1 - (lg_sl ([.ref (a 6)])).length) Slot.unset).toArray = ls at hl ⊢
  have hl : lv_has ls 1 [(0, .ref (a 6))] := hl
  unfold mX0_innermost at hm
  refine lv_aload_n hx hb dX0_innermost_0 rfl (lv_at hl 0 rfl) ?_
  refine gfX0_innermost hx hb h_X0 hown hK hP l_f21 dX0_innermost_1 ?_
  exact W.iret (v := σ.1 11 0) hx hb hr (fun T hT hW => ⟨⟨σ.1 11 0, σ, rfl, ⟨Option.some.inj hm, rfl⟩, by rw [posW, hT]; exact hP⟩, hS.F hT⟩) hS.2.2 dX0_innermost_4
theorem eX0_first : yX0_first.cls = RX0 ∧ yX0_first.cls ≠ "java/lang/invoke/MethodHandle" ∧ yX0_first.cls ≠ "java/lang/invoke/VarHandle" ∧ (parseMethodDescriptor yX0_first.desc).map (fun d => d.parameters.length) = some 1 := by decide +kernel
def mX0_first (σ : St) (p1 : Int32) : Option Int32 :=
if p1 < 0 then (
some (-1))
else (
if (σ.1 9 0) ≤ p1 then (
some (-1))
else (
chkI p1 60 (
some (σ.1 36 p1.toNatClampNeg))))
set_option maxHeartbeats 4000000 in
set_option maxRecDepth 100000 in
theorem kX0_first (l : Launch) (D : va_G) (y : Nat → ClassId) (a t : Nat → Nat) (hI : AI a 37) (sz : Nat) (σ : St) (p1 : Int32) (r : Int32) (hm : mX0_first σ p1 = some r) : Met l yX0_first zX0_first { frames := 0, cells := 0, slots := 0, locals := 0 } (va_Pc [.ref (a 6), .int p1] (preW (wC y a) a 37 D y t σ sz)) (va_Qi (fun r' u => r' = r ∧ u = σ) (posW (wC y a) D) (AC a 37 sz)) 0 0 (AC a 37 sz) := by
  refine Met.ofW (cc := cX0_first) (maxL := 2) (ret := (some .int)) (by decide) rfl ?_
  intro p e s m args below meth c s₁ B hml hv
  obtain ⟨rfl, hsz, hP, hK, hF⟩ := hv
  have hx := B.exec
  have hb := B.bytes
  have hr := B.returns
  have hts := atoms_spec (ws := zX0_first) B.pre
  have hown : s.vm.findClass RX0 = some m.cls := findClass_of_methodNamed B.named
  have hlocks := B.notSynchronized
  subst hsz
  have l_f25 := hts _ (List.mem_cons_of_mem _ aF_X0_25)
  have l_f9 := hts _ (List.mem_cons_of_mem _ aF_X0_9)
  have h_X0 : ∀ w ∈ wsX00, w.before _ s = true := fun w hw => hts w (List.mem_cons_of_mem _ (hwX0 w hw))
  have hS : va_S (AC a 37 s.heap.size) s.heap s.heap [] := va_S.rf
  have hl := lv_entry ([.ref (a 6), .int p1]) (n := 2) (Nat.le_of_ble_eq_true rfl)
  rw [lg_entry_eq]
  generalize (lg_sl ([.ref (a 6), .int p1]) ++ List.replicate (2 - (lg_sl ([.ref (a 6), .int p1])).length) Slot.unset).toArray = ls at hl ⊢
  have hl : lv_has ls 2 [(0, .ref (a 6)), (1, .int p1)] := hl
  unfold mX0_first at hm
  refine lv_iload_n hx hb dX0_first_0 rfl (lv_at hl 1 rfl) ?_
  refine lv_if_lt (tgt := 21) hx hb dX0_first_1 (by decide) (fun c1 => ?_) (fun c1 => ?_)
  · have hm := (if_pos c1).symm.trans hm
    refine lv_iconst (v := (-1)) hx hb dX0_first_21 (by decide) ?_
    exact W.iret (v := (-1)) hx hb hr (fun T hT hW => ⟨⟨(-1), σ, rfl, ⟨Option.some.inj hm, rfl⟩, by rw [posW, hT]; exact hP⟩, hS.F hT⟩) hS.2.2 dX0_first_22
  · have hm := (if_neg c1).symm.trans hm
    refine lv_iload_n hx hb dX0_first_4 rfl (lv_at hl 1 rfl) ?_
    refine lv_aload_n hx hb dX0_first_5 rfl (lv_at hl 0 rfl) ?_
    refine gfX0_known hx hb h_X0 hown hK hP l_f25 dX0_first_6 ?_
    refine lv_icmp_ge (tgt := 21) hx hb dX0_first_9 (by decide) (fun c2 => ?_) (fun c2 => ?_)
    · have hm := (if_pos c2).symm.trans hm
      refine lv_iconst (v := (-1)) hx hb dX0_first_21 (by decide) ?_
      exact W.iret (v := (-1)) hx hb hr (fun T hT hW => ⟨⟨(-1), σ, rfl, ⟨Option.some.inj hm, rfl⟩, by rw [posW, hT]; exact hP⟩, hS.F hT⟩) hS.2.2 dX0_first_22
    · have hm := (if_neg c2).symm.trans hm
      refine lv_aload_n hx hb dX0_first_12 rfl (lv_at hl 0 rfl) ?_
      refine gfX0_firsts hx hb h_X0 hown hK hP l_f9 dX0_first_13 ?_
      refine lv_iload_n hx hb dX0_first_16 rfl (lv_at hl 1 rfl) ?_
      obtain ⟨hi, hm⟩ := ok_I hm
      refine ldC_33 hx hb hK hP hi dX0_first_17 ?_
      refine lv_goto (tgt := 22) hx hb dX0_first_18 (by decide) ?_
      exact W.iret (v := σ.1 36 p1.toNatClampNeg) hx hb hr (fun T hT hW => ⟨⟨σ.1 36 p1.toNatClampNeg, σ, rfl, ⟨Option.some.inj hm, rfl⟩, by rw [posW, hT]; exact hP⟩, hS.F hT⟩) hS.2.2 dX0_first_22
theorem eX0_last : yX0_last.cls = RX0 ∧ yX0_last.cls ≠ "java/lang/invoke/MethodHandle" ∧ yX0_last.cls ≠ "java/lang/invoke/VarHandle" ∧ (parseMethodDescriptor yX0_last.desc).map (fun d => d.parameters.length) = some 1 := by decide +kernel
def mX0_last (σ : St) (p1 : Int32) : Option Int32 :=
if p1 < 0 then (
some (-1))
else (
if (σ.1 9 0) ≤ p1 then (
some (-1))
else (
chkI p1 60 (
some (σ.1 37 p1.toNatClampNeg))))
set_option maxHeartbeats 4000000 in
set_option maxRecDepth 100000 in
theorem kX0_last (l : Launch) (D : va_G) (y : Nat → ClassId) (a t : Nat → Nat) (hI : AI a 37) (sz : Nat) (σ : St) (p1 : Int32) (r : Int32) (hm : mX0_last σ p1 = some r) : Met l yX0_last zX0_last { frames := 0, cells := 0, slots := 0, locals := 0 } (va_Pc [.ref (a 6), .int p1] (preW (wC y a) a 37 D y t σ sz)) (va_Qi (fun r' u => r' = r ∧ u = σ) (posW (wC y a) D) (AC a 37 sz)) 0 0 (AC a 37 sz) := by
  refine Met.ofW (cc := cX0_last) (maxL := 2) (ret := (some .int)) (by decide) rfl ?_
  intro p e s m args below meth c s₁ B hml hv
  obtain ⟨rfl, hsz, hP, hK, hF⟩ := hv
  have hx := B.exec
  have hb := B.bytes
  have hr := B.returns
  have hts := atoms_spec (ws := zX0_last) B.pre
  have hown : s.vm.findClass RX0 = some m.cls := findClass_of_methodNamed B.named
  have hlocks := B.notSynchronized
  subst hsz
  have l_f25 := hts _ (List.mem_cons_of_mem _ aF_X0_25)
  have l_f15 := hts _ (List.mem_cons_of_mem _ aF_X0_15)
  have h_X0 : ∀ w ∈ wsX00, w.before _ s = true := fun w hw => hts w (List.mem_cons_of_mem _ (hwX0 w hw))
  have hS : va_S (AC a 37 s.heap.size) s.heap s.heap [] := va_S.rf
  have hl := lv_entry ([.ref (a 6), .int p1]) (n := 2) (Nat.le_of_ble_eq_true rfl)
  rw [lg_entry_eq]
  generalize (lg_sl ([.ref (a 6), .int p1]) ++ List.replicate (2 - (lg_sl ([.ref (a 6), .int p1])).length) Slot.unset).toArray = ls at hl ⊢
  have hl : lv_has ls 2 [(0, .ref (a 6)), (1, .int p1)] := hl
  unfold mX0_last at hm
  refine lv_iload_n hx hb dX0_last_0 rfl (lv_at hl 1 rfl) ?_
  refine lv_if_lt (tgt := 21) hx hb dX0_last_1 (by decide) (fun c1 => ?_) (fun c1 => ?_)
  · have hm := (if_pos c1).symm.trans hm
    refine lv_iconst (v := (-1)) hx hb dX0_last_21 (by decide) ?_
    exact W.iret (v := (-1)) hx hb hr (fun T hT hW => ⟨⟨(-1), σ, rfl, ⟨Option.some.inj hm, rfl⟩, by rw [posW, hT]; exact hP⟩, hS.F hT⟩) hS.2.2 dX0_last_22
  · have hm := (if_neg c1).symm.trans hm
    refine lv_iload_n hx hb dX0_last_4 rfl (lv_at hl 1 rfl) ?_
    refine lv_aload_n hx hb dX0_last_5 rfl (lv_at hl 0 rfl) ?_
    refine gfX0_known hx hb h_X0 hown hK hP l_f25 dX0_last_6 ?_
    refine lv_icmp_ge (tgt := 21) hx hb dX0_last_9 (by decide) (fun c2 => ?_) (fun c2 => ?_)
    · have hm := (if_pos c2).symm.trans hm
      refine lv_iconst (v := (-1)) hx hb dX0_last_21 (by decide) ?_
      exact W.iret (v := (-1)) hx hb hr (fun T hT hW => ⟨⟨(-1), σ, rfl, ⟨Option.some.inj hm, rfl⟩, by rw [posW, hT]; exact hP⟩, hS.F hT⟩) hS.2.2 dX0_last_22
    · have hm := (if_neg c2).symm.trans hm
      refine lv_aload_n hx hb dX0_last_12 rfl (lv_at hl 0 rfl) ?_
      refine gfX0_lasts hx hb h_X0 hown hK hP l_f15 dX0_last_13 ?_
      refine lv_iload_n hx hb dX0_last_16 rfl (lv_at hl 1 rfl) ?_
      obtain ⟨hi, hm⟩ := ok_I hm
      refine ldC_34 hx hb hK hP hi dX0_last_17 ?_
      refine lv_goto (tgt := 22) hx hb dX0_last_18 (by decide) ?_
      exact W.iret (v := σ.1 37 p1.toNatClampNeg) hx hb hr (fun T hT hW => ⟨⟨σ.1 37 p1.toNatClampNeg, σ, rfl, ⟨Option.some.inj hm, rfl⟩, by rw [posW, hT]; exact hP⟩, hS.F hT⟩) hS.2.2 dX0_last_22
theorem eX0_outer : yX0_outer.cls = RX0 ∧ yX0_outer.cls ≠ "java/lang/invoke/MethodHandle" ∧ yX0_outer.cls ≠ "java/lang/invoke/VarHandle" ∧ (parseMethodDescriptor yX0_outer.desc).map (fun d => d.parameters.length) = some 1 := by decide +kernel
def mX0_outer (σ : St) (p1 : Int32) : Option Int32 :=
if p1 < 0 then (
some (-1))
else (
if (σ.1 9 0) ≤ p1 then (
some (-1))
else (
chkI p1 60 (
some (σ.1 38 p1.toNatClampNeg))))
set_option maxHeartbeats 4000000 in
set_option maxRecDepth 100000 in
theorem kX0_outer (l : Launch) (D : va_G) (y : Nat → ClassId) (a t : Nat → Nat) (hI : AI a 37) (sz : Nat) (σ : St) (p1 : Int32) (r : Int32) (hm : mX0_outer σ p1 = some r) : Met l yX0_outer zX0_outer { frames := 0, cells := 0, slots := 0, locals := 0 } (va_Pc [.ref (a 6), .int p1] (preW (wC y a) a 37 D y t σ sz)) (va_Qi (fun r' u => r' = r ∧ u = σ) (posW (wC y a) D) (AC a 37 sz)) 0 0 (AC a 37 sz) := by
  refine Met.ofW (cc := cX0_outer) (maxL := 2) (ret := (some .int)) (by decide) rfl ?_
  intro p e s m args below meth c s₁ B hml hv
  obtain ⟨rfl, hsz, hP, hK, hF⟩ := hv
  have hx := B.exec
  have hb := B.bytes
  have hr := B.returns
  have hts := atoms_spec (ws := zX0_outer) B.pre
  have hown : s.vm.findClass RX0 = some m.cls := findClass_of_methodNamed B.named
  have hlocks := B.notSynchronized
  subst hsz
  have l_f25 := hts _ (List.mem_cons_of_mem _ aF_X0_25)
  have l_f18 := hts _ (List.mem_cons_of_mem _ aF_X0_18)
  have h_X0 : ∀ w ∈ wsX00, w.before _ s = true := fun w hw => hts w (List.mem_cons_of_mem _ (hwX0 w hw))
  have hS : va_S (AC a 37 s.heap.size) s.heap s.heap [] := va_S.rf
  have hl := lv_entry ([.ref (a 6), .int p1]) (n := 2) (Nat.le_of_ble_eq_true rfl)
  rw [lg_entry_eq]
  generalize (lg_sl ([.ref (a 6), .int p1]) ++ List.replicate (2 - (lg_sl ([.ref (a 6), .int p1])).length) Slot.unset).toArray = ls at hl ⊢
  have hl : lv_has ls 2 [(0, .ref (a 6)), (1, .int p1)] := hl
  unfold mX0_outer at hm
  refine lv_iload_n hx hb dX0_outer_0 rfl (lv_at hl 1 rfl) ?_
  refine lv_if_lt (tgt := 21) hx hb dX0_outer_1 (by decide) (fun c1 => ?_) (fun c1 => ?_)
  · have hm := (if_pos c1).symm.trans hm
    refine lv_iconst (v := (-1)) hx hb dX0_outer_21 (by decide) ?_
    exact W.iret (v := (-1)) hx hb hr (fun T hT hW => ⟨⟨(-1), σ, rfl, ⟨Option.some.inj hm, rfl⟩, by rw [posW, hT]; exact hP⟩, hS.F hT⟩) hS.2.2 dX0_outer_22
  · have hm := (if_neg c1).symm.trans hm
    refine lv_iload_n hx hb dX0_outer_4 rfl (lv_at hl 1 rfl) ?_
    refine lv_aload_n hx hb dX0_outer_5 rfl (lv_at hl 0 rfl) ?_
    refine gfX0_known hx hb h_X0 hown hK hP l_f25 dX0_outer_6 ?_
    refine lv_icmp_ge (tgt := 21) hx hb dX0_outer_9 (by decide) (fun c2 => ?_) (fun c2 => ?_)
    · have hm := (if_pos c2).symm.trans hm
      refine lv_iconst (v := (-1)) hx hb dX0_outer_21 (by decide) ?_
      exact W.iret (v := (-1)) hx hb hr (fun T hT hW => ⟨⟨(-1), σ, rfl, ⟨Option.some.inj hm, rfl⟩, by rw [posW, hT]; exact hP⟩, hS.F hT⟩) hS.2.2 dX0_outer_22
    · have hm := (if_neg c2).symm.trans hm
      refine lv_aload_n hx hb dX0_outer_12 rfl (lv_at hl 0 rfl) ?_
      refine gfX0_outers hx hb h_X0 hown hK hP l_f18 dX0_outer_13 ?_
      refine lv_iload_n hx hb dX0_outer_16 rfl (lv_at hl 1 rfl) ?_
      obtain ⟨hi, hm⟩ := ok_I hm
      refine ldC_35 hx hb hK hP hi dX0_outer_17 ?_
      refine lv_goto (tgt := 22) hx hb dX0_outer_18 (by decide) ?_
      exact W.iret (v := σ.1 38 p1.toNatClampNeg) hx hb hr (fun T hT hW => ⟨⟨σ.1 38 p1.toNatClampNeg, σ, rfl, ⟨Option.some.inj hm, rfl⟩, by rw [posW, hT]; exact hP⟩, hS.F hT⟩) hS.2.2 dX0_outer_22
theorem eX0_isOpen : yX0_isOpen.cls = RX0 ∧ yX0_isOpen.cls ≠ "java/lang/invoke/MethodHandle" ∧ yX0_isOpen.cls ≠ "java/lang/invoke/VarHandle" ∧ (parseMethodDescriptor yX0_isOpen.desc).map (fun d => d.parameters.length) = some 1 := by decide +kernel
def mX0_isOpen (σ : St) (p1 : Int32) : Option Int32 :=
if p1 < 0 then (
some 1)
else (
if (σ.1 9 0) ≤ p1 then (
some 0)
else (
chkI p1 60 (
if 0 ≤ (σ.1 37 p1.toNatClampNeg) then (
some 0)
else (
some 1))))
set_option maxHeartbeats 4000000 in
set_option maxRecDepth 100000 in
theorem kX0_isOpen (l : Launch) (D : va_G) (y : Nat → ClassId) (a t : Nat → Nat) (hI : AI a 37) (sz : Nat) (σ : St) (p1 : Int32) (r : Int32) (hm : mX0_isOpen σ p1 = some r) : Met l yX0_isOpen zX0_isOpen { frames := 0, cells := 0, slots := 0, locals := 0 } (va_Pc [.ref (a 6), .int p1] (preW (wC y a) a 37 D y t σ sz)) (va_Qi (fun r' u => r' = r ∧ u = σ) (posW (wC y a) D) (AC a 37 sz)) 0 0 (AC a 37 sz) := by
  refine Met.ofW (cc := cX0_isOpen) (maxL := 2) (ret := (some .boolean)) (by decide) rfl ?_
  intro p e s m args below meth c s₁ B hml hv
  obtain ⟨rfl, hsz, hP, hK, hF⟩ := hv
  have hx := B.exec
  have hb := B.bytes
  have hr := B.returns
  have hts := atoms_spec (ws := zX0_isOpen) B.pre
  have hown : s.vm.findClass RX0 = some m.cls := findClass_of_methodNamed B.named
  have hlocks := B.notSynchronized
  subst hsz
  have l_f25 := hts _ (List.mem_cons_of_mem _ aF_X0_25)
  have l_f15 := hts _ (List.mem_cons_of_mem _ aF_X0_15)
  have h_X0 : ∀ w ∈ wsX00, w.before _ s = true := fun w hw => hts w (List.mem_cons_of_mem _ (hwX0 w hw))
  have hS : va_S (AC a 37 s.heap.size) s.heap s.heap [] := va_S.rf
  have hl := lv_entry ([.ref (a 6), .int p1]) (n := 2) (Nat.le_of_ble_eq_true rfl)
  rw [lg_entry_eq]
  generalize (lg_sl ([.ref (a 6), .int p1]) ++ List.replicate (2 - (lg_sl ([.ref (a 6), .int p1])).length) Slot.unset).toArray = ls at hl ⊢
  have hl : lv_has ls 2 [(0, .ref (a 6)), (1, .int p1)] := hl
  unfold mX0_isOpen at hm
  refine lv_iload_n hx hb dX0_isOpen_0 rfl (lv_at hl 1 rfl) ?_
  refine lv_if_lt (tgt := 21) hx hb dX0_isOpen_1 (by decide) (fun c1 => ?_) (fun c1 => ?_)
  · have hm := (if_pos c1).symm.trans hm
    refine lv_iconst (v := 1) hx hb dX0_isOpen_21 (by decide) ?_
    refine lv_goto (tgt := 26) hx hb dX0_isOpen_22 (by decide) ?_
    exact W.zret (v := 1) hx hb hr rfl (fun T hT hW => ⟨⟨1, σ, rfl, ⟨Option.some.inj hm, rfl⟩, by rw [posW, hT]; exact hP⟩, hS.F hT⟩) hS.2.2 dX0_isOpen_26
  · have hm := (if_neg c1).symm.trans hm
    refine lv_iload_n hx hb dX0_isOpen_4 rfl (lv_at hl 1 rfl) ?_
    refine lv_aload_n hx hb dX0_isOpen_5 rfl (lv_at hl 0 rfl) ?_
    refine gfX0_known hx hb h_X0 hown hK hP l_f25 dX0_isOpen_6 ?_
    refine lv_icmp_ge (tgt := 25) hx hb dX0_isOpen_9 (by decide) (fun c2 => ?_) (fun c2 => ?_)
    · have hm := (if_pos c2).symm.trans hm
      refine lv_iconst (v := 0) hx hb dX0_isOpen_25 (by decide) ?_
      exact W.zret (v := 0) hx hb hr rfl (fun T hT hW => ⟨⟨0, σ, rfl, ⟨Option.some.inj hm, rfl⟩, by rw [posW, hT]; exact hP⟩, hS.F hT⟩) hS.2.2 dX0_isOpen_26
    · have hm := (if_neg c2).symm.trans hm
      refine lv_aload_n hx hb dX0_isOpen_12 rfl (lv_at hl 0 rfl) ?_
      refine gfX0_lasts hx hb h_X0 hown hK hP l_f15 dX0_isOpen_13 ?_
      refine lv_iload_n hx hb dX0_isOpen_16 rfl (lv_at hl 1 rfl) ?_
      obtain ⟨hi, hm⟩ := ok_I hm
      refine ldC_34 hx hb hK hP hi dX0_isOpen_17 ?_
      refine lv_if_ge (tgt := 25) hx hb dX0_isOpen_18 (by decide) (fun c3 => ?_) (fun c3 => ?_)
      · have hm := (if_pos c3).symm.trans hm
        refine lv_iconst (v := 0) hx hb dX0_isOpen_25 (by decide) ?_
        exact W.zret (v := 0) hx hb hr rfl (fun T hT hW => ⟨⟨0, σ, rfl, ⟨Option.some.inj hm, rfl⟩, by rw [posW, hT]; exact hP⟩, hS.F hT⟩) hS.2.2 dX0_isOpen_26
      · have hm := (if_neg c3).symm.trans hm
        refine lv_iconst (v := 1) hx hb dX0_isOpen_21 (by decide) ?_
        refine lv_goto (tgt := 26) hx hb dX0_isOpen_22 (by decide) ?_
        exact W.zret (v := 1) hx hb hr rfl (fun T hT hW => ⟨⟨1, σ, rfl, ⟨Option.some.inj hm, rfl⟩, by rw [posW, hT]; exact hP⟩, hS.F hT⟩) hS.2.2 dX0_isOpen_26
theorem eX0_canBeReferredTo : yX0_canBeReferredTo.cls = RX0 ∧ yX0_canBeReferredTo.cls ≠ "java/lang/invoke/MethodHandle" ∧ yX0_canBeReferredTo.cls ≠ "java/lang/invoke/VarHandle" ∧ (parseMethodDescriptor yX0_canBeReferredTo.desc).map (fun d => d.parameters.length) = some 1 := by decide +kernel
def mX0_canBeReferredTo (σ : St) (p1 : Int32) : Option Int32 :=
if p1 < 0 then (
some 0)
else (
if (σ.1 9 0) ≤ p1 then (
some 0)
else (
chkI p1 60 (
if (σ.1 37 p1.toNatClampNeg) < 0 then (
some 0)
else (
chkI p1 60 (
(mX0_isOpen σ (σ.1 38 p1.toNatClampNeg)).bind fun r4 =>
if r4 = 0 then (
some 0)
else (
some 1))))))
set_option maxHeartbeats 4000000 in
set_option maxRecDepth 100000 in
theorem kX0_canBeReferredTo (l : Launch) (D : va_G) (y : Nat → ClassId) (a t : Nat → Nat) (hI : AI a 37) (sz : Nat) (σ : St) (p1 : Int32) (r : Int32) (hm : mX0_canBeReferredTo σ p1 = some r) : Met l yX0_canBeReferredTo zX0_canBeReferredTo { frames := 1, cells := 0, slots := 0, locals := 21 } (va_Pc [.ref (a 6), .int p1] (preW (wC y a) a 37 D y t σ sz)) (va_Qi (fun r' u => r' = r ∧ u = σ) (posW (wC y a) D) (AC a 37 sz)) 0 0 (AC a 37 sz) := by
  refine Met.ofW (cc := cX0_canBeReferredTo) (maxL := 2) (ret := (some .boolean)) (by decide) rfl ?_
  intro p e s m args below meth c s₁ B hml hv
  obtain ⟨rfl, hsz, hP, hK, hF⟩ := hv
  have hx := B.exec
  have hb := B.bytes
  have hr := B.returns
  have hts := atoms_spec (ws := zX0_canBeReferredTo) B.pre
  have hown : s.vm.findClass RX0 = some m.cls := findClass_of_methodNamed B.named
  have hlocks := B.notSynchronized
  subst hsz
  have l_f25 := hts _ (List.mem_cons_of_mem _ aF_X0_25)
  have l_f15 := hts _ (List.mem_cons_of_mem _ aF_X0_15)
  have l_f18 := hts _ (List.mem_cons_of_mem _ aF_X0_18)
  have h_X0 : ∀ w ∈ wsX00, w.before _ s = true := fun w hw => hts w (List.mem_cons_of_mem _ (hwX0 w hw))
  have hS : va_S (AC a 37 s.heap.size) s.heap s.heap [] := va_S.rf
  have hl := lv_entry ([.ref (a 6), .int p1]) (n := 2) (Nat.le_of_ble_eq_true rfl)
  rw [lg_entry_eq]
  generalize (lg_sl ([.ref (a 6), .int p1]) ++ List.replicate (2 - (lg_sl ([.ref (a 6), .int p1])).length) Slot.unset).toArray = ls at hl ⊢
  have hl : lv_has ls 2 [(0, .ref (a 6)), (1, .int p1)] := hl
  unfold mX0_canBeReferredTo at hm
  refine lv_iload_n hx hb dX0_canBeReferredTo_0 rfl (lv_at hl 1 rfl) ?_
  refine lv_if_lt (tgt := 38) hx hb dX0_canBeReferredTo_1 (by decide) (fun c1 => ?_) (fun c1 => ?_)
  · have hm := (if_pos c1).symm.trans hm
    refine lv_iconst (v := 0) hx hb dX0_canBeReferredTo_38 (by decide) ?_
    exact W.zret (v := 0) hx hb hr rfl (fun T hT hW => ⟨⟨0, σ, rfl, ⟨Option.some.inj hm, rfl⟩, by rw [posW, hT]; exact hP⟩, hS.F hT⟩) hS.2.2 dX0_canBeReferredTo_39
  · have hm := (if_neg c1).symm.trans hm
    refine lv_iload_n hx hb dX0_canBeReferredTo_4 rfl (lv_at hl 1 rfl) ?_
    refine lv_aload_n hx hb dX0_canBeReferredTo_5 rfl (lv_at hl 0 rfl) ?_
    refine gfX0_known hx hb h_X0 hown hK hP l_f25 dX0_canBeReferredTo_6 ?_
    refine lv_icmp_ge (tgt := 38) hx hb dX0_canBeReferredTo_9 (by decide) (fun c2 => ?_) (fun c2 => ?_)
    · have hm := (if_pos c2).symm.trans hm
      refine lv_iconst (v := 0) hx hb dX0_canBeReferredTo_38 (by decide) ?_
      exact W.zret (v := 0) hx hb hr rfl (fun T hT hW => ⟨⟨0, σ, rfl, ⟨Option.some.inj hm, rfl⟩, by rw [posW, hT]; exact hP⟩, hS.F hT⟩) hS.2.2 dX0_canBeReferredTo_39
    · have hm := (if_neg c2).symm.trans hm
      refine lv_aload_n hx hb dX0_canBeReferredTo_12 rfl (lv_at hl 0 rfl) ?_
      refine gfX0_lasts hx hb h_X0 hown hK hP l_f15 dX0_canBeReferredTo_13 ?_
      refine lv_iload_n hx hb dX0_canBeReferredTo_16 rfl (lv_at hl 1 rfl) ?_
      obtain ⟨hi, hm⟩ := ok_I hm
      refine ldC_34 hx hb hK hP hi dX0_canBeReferredTo_17 ?_
      refine lv_if_lt (tgt := 38) hx hb dX0_canBeReferredTo_18 (by decide) (fun c3 => ?_) (fun c3 => ?_)
      · have hm := (if_pos c3).symm.trans hm
        refine lv_iconst (v := 0) hx hb dX0_canBeReferredTo_38 (by decide) ?_
        exact W.zret (v := 0) hx hb hr rfl (fun T hT hW => ⟨⟨0, σ, rfl, ⟨Option.some.inj hm, rfl⟩, by rw [posW, hT]; exact hP⟩, hS.F hT⟩) hS.2.2 dX0_canBeReferredTo_39
      · have hm := (if_neg c3).symm.trans hm
        refine lv_aload_n hx hb dX0_canBeReferredTo_21 rfl (lv_at hl 0 rfl) ?_
        refine lv_aload_n hx hb dX0_canBeReferredTo_22 rfl (lv_at hl 0 rfl) ?_
        refine gfX0_outers hx hb h_X0 hown hK hP l_f18 dX0_canBeReferredTo_23 ?_
        refine lv_iload_n hx hb dX0_canBeReferredTo_26 rfl (lv_at hl 1 rfl) ?_
        obtain ⟨hi, hm⟩ := ok_I hm
        refine ldC_35 hx hb hK hP hi dX0_canBeReferredTo_27 ?_
        obtain ⟨r4, h5, hm⟩ := ok_bind hm
        refine calV_i (As := [.int (σ.1 38 p1.toNatClampNeg)]) (rest := []) ⟨hx, hb, hml, hown, hts⟩ (kX0_isOpen l D y a t hI _ σ (σ.1 38 p1.toNatClampNeg) r4 h5) (cwV 1 hts (gAV aM_X0_31 aI_X0_isOpen aS_X0_isOpen aN_X0 aC_X0_isOpen) rfl rfl rfl eX0_isOpen ⟨Nat.le_of_ble_eq_true rfl, Nat.le_of_ble_eq_true rfl⟩) (preV_W (ci := 0) (q := (RX0, TX0, 6)) hK hP hF hS rfl (wC_6 y a σ)) rfl hl.1 rfl (Nat.le_of_ble_eq_true rfl) dX0_canBeReferredTo_28 ⟨Nat.zero_le _, Nat.zero_le _⟩ hS (AC_le hS.1) (fun H locs hP hS hk1 => ?_)
        refine lv_if_eq (tgt := 38) hx hb dX0_canBeReferredTo_31 (by decide) (fun c6 => ?_) (fun c6 => ?_)
        · have hm := (if_pos c6).symm.trans hm
          refine lv_iconst (v := 0) hx hb dX0_canBeReferredTo_38 (by decide) ?_
          exact W.zret (v := 0) hx hb hr rfl (fun T hT hW => ⟨⟨0, σ, rfl, ⟨Option.some.inj hm, rfl⟩, by rw [posW, hT]; exact hP⟩, hS.F hT⟩) hS.2.2 dX0_canBeReferredTo_39
        · have hm := (if_neg c6).symm.trans hm
          refine lv_iconst (v := 1) hx hb dX0_canBeReferredTo_34 (by decide) ?_
          refine lv_goto (tgt := 39) hx hb dX0_canBeReferredTo_35 (by decide) ?_
          exact W.zret (v := 1) hx hb hr rfl (fun T hT hW => ⟨⟨1, σ, rfl, ⟨Option.some.inj hm, rfl⟩, by rw [posW, hT]; exact hP⟩, hS.F hT⟩) hS.2.2 dX0_canBeReferredTo_39
theorem eX0_clear : yX0_clear.cls = RX0 ∧ yX0_clear.cls ≠ "java/lang/invoke/MethodHandle" ∧ yX0_clear.cls ≠ "java/lang/invoke/VarHandle" ∧ (parseMethodDescriptor yX0_clear.desc).map (fun d => d.parameters.length) = some 0 := by decide +kernel
def mX0_clear (σ : St) : Option St :=
bnd (su σ 9 (fun _ => 0)) fun s1 =>
bnd (su s1 10 (fun _ => 0)) fun s2 =>
bnd (su s2 11 (fun _ => (-1))) fun s3 =>
some s3
set_option maxHeartbeats 4000000 in
set_option maxRecDepth 100000 in
theorem kX0_clear (l : Launch) (D : va_G) (y : Nat → ClassId) (a t : Nat → Nat) (hI : AI a 37) (sz : Nat) (σ τ : St) (hm : mX0_clear σ = some τ) : Met l yX0_clear zX0_clear { frames := 0, cells := 0, slots := 0, locals := 0 } (va_Pc [.ref (a 6)] (preW (wC y a) a 37 D y t σ sz)) (va_Qv (fun u => u = τ) (posW (wC y a) D) (AC a 37 sz)) 0 0 (AC a 37 sz) := by
  refine Met.ofW (cc := cX0_clear) (maxL := 1) (ret := none) (by decide) rfl ?_
  intro p e s m args below meth c s₁ B hml hv
  obtain ⟨rfl, hsz, hP, hK, hF⟩ := hv
  have hx := B.exec
  have hb := B.bytes
  have hr := B.returns
  have hts := atoms_spec (ws := zX0_clear) B.pre
  have hown : s.vm.findClass RX0 = some m.cls := findClass_of_methodNamed B.named
  have hlocks := B.notSynchronized
  subst hsz
  have l_f25 := hts _ (List.mem_cons_of_mem _ aF_X0_25)
  have l_f28 := hts _ (List.mem_cons_of_mem _ aF_X0_28)
  have l_f21 := hts _ (List.mem_cons_of_mem _ aF_X0_21)
  have h_X0 : ∀ w ∈ wsX00, w.before _ s = true := fun w hw => hts w (List.mem_cons_of_mem _ (hwX0 w hw))
  have hS : va_S (AC a 37 s.heap.size) s.heap s.heap [] := va_S.rf
  have hl := lv_entry ([.ref (a 6)]) (n := 1) (Nat.le_of_ble_eq_true rfl)
  rw [lg_entry_eq]
  generalize (lg_sl ([.ref (a 6)]) ++ List.replicate (1 - (lg_sl ([.ref (a 6)])).length) Slot.unset).toArray = ls at hl ⊢
  have hl : lv_has ls 1 [(0, .ref (a 6))] := hl
  unfold mX0_clear at hm
  refine lv_aload_n hx hb dX0_clear_0 rfl (lv_at hl 0 rfl) ?_
  refine lv_iconst (v := 0) hx hb dX0_clear_1 (by decide) ?_
  refine pfX0_known hx hb h_X0 hown hK hP hI AC_in hS l_f25 dX0_clear_2 (fun H locs hP hS => ?_)
  generalize es1 : su σ 9 (fun _ => 0) = s1 at hP
  have hm := bnd_x es1.symm hm
  refine lv_aload_n hx hb dX0_clear_5 rfl (lv_at hl 0 rfl) ?_
  refine lv_iconst (v := 0) hx hb dX0_clear_6 (by decide) ?_
  refine pfX0_open hx hb h_X0 hown hK hP hI AC_in hS l_f28 dX0_clear_7 (fun H locs hP hS => ?_)
  generalize es2 : su s1 10 (fun _ => 0) = s2 at hP
  have hm := bnd_x es2.symm hm
  refine lv_aload_n hx hb dX0_clear_10 rfl (lv_at hl 0 rfl) ?_
  refine lv_iconst (v := (-1)) hx hb dX0_clear_11 (by decide) ?_
  refine pfX0_innermost hx hb h_X0 hown hK hP hI AC_in hS l_f21 dX0_clear_12 (fun H locs hP hS => ?_)
  generalize es3 : su s2 11 (fun _ => (-1)) = s3 at hP
  have hm := bnd_x es3.symm hm
  exact W.vret hx hb hr (fun T hT hW => ⟨⟨s3, rfl, Option.some.inj hm, by rw [posW, hT]; exact hP⟩, hS.F hT⟩) hS.2.2 dX0_clear_15
theorem eX0_addAt : yX0_addAt.cls = RX0 ∧ yX0_addAt.cls ≠ "java/lang/invoke/MethodHandle" ∧ yX0_addAt.cls ≠ "java/lang/invoke/VarHandle" ∧ (parseMethodDescriptor yX0_addAt.desc).map (fun d => d.parameters.length) = some 1 := by decide +kernel
def mX0_addAt (σ : St) (p1 : Int32) : Option St :=
if (σ.1 9 0) < 0 then (
some σ)
else (
if 60 ≤ (σ.1 9 0) then (
some σ)
else (
chkI (σ.1 9 0) 60 (
bnd (su σ 36 (upd (σ.1 36) (σ.1 9 0).toNatClampNeg p1)) fun s3 =>
chkI (s3.1 9 0) 60 (
bnd (su s3 37 (upd (s3.1 37) (s3.1 9 0).toNatClampNeg (-1))) fun s4 =>
chkI (s4.1 9 0) 60 (
bnd (su s4 38 (upd (s4.1 38) (s4.1 9 0).toNatClampNeg (s4.1 11 0))) fun s5 =>
bnd (su s5 11 (fun _ => s5.1 9 0)) fun s6 =>
bnd (su s6 9 (fun _ => (s6.1 9 0) + 1)) fun s7 =>
bnd (su s7 10 (fun _ => (s7.1 10 0) + 1)) fun s8 =>
some s8)))))
set_option maxHeartbeats 4000000 in
set_option maxRecDepth 100000 in
theorem kX0_addAt (l : Launch) (D : va_G) (y : Nat → ClassId) (a t : Nat → Nat) (hI : AI a 37) (sz : Nat) (σ τ : St) (p1 : Int32) (hm : mX0_addAt σ p1 = some τ) : Met l yX0_addAt zX0_addAt { frames := 0, cells := 0, slots := 0, locals := 0 } (va_Pc [.ref (a 6), .int p1] (preW (wC y a) a 37 D y t σ sz)) (va_Qv (fun u => u = τ) (posW (wC y a) D) (AC a 37 sz)) 0 0 (AC a 37 sz) := by
  refine Met.ofW (cc := cX0_addAt) (maxL := 2) (ret := none) (by decide) rfl ?_
  intro p e s m args below meth c s₁ B hml hv
  obtain ⟨rfl, hsz, hP, hK, hF⟩ := hv
  have hx := B.exec
  have hb := B.bytes
  have hr := B.returns
  have hts := atoms_spec (ws := zX0_addAt) B.pre
  have hown : s.vm.findClass RX0 = some m.cls := findClass_of_methodNamed B.named
  have hlocks := B.notSynchronized
  subst hsz
  have l_f25 := hts _ (List.mem_cons_of_mem _ aF_X0_25)
  have l_f9 := hts _ (List.mem_cons_of_mem _ aF_X0_9)
  have l_f15 := hts _ (List.mem_cons_of_mem _ aF_X0_15)
  have l_f18 := hts _ (List.mem_cons_of_mem _ aF_X0_18)
  have l_f21 := hts _ (List.mem_cons_of_mem _ aF_X0_21)
  have l_f28 := hts _ (List.mem_cons_of_mem _ aF_X0_28)
  have h_X0 : ∀ w ∈ wsX00, w.before _ s = true := fun w hw => hts w (List.mem_cons_of_mem _ (hwX0 w hw))
  have hS : va_S (AC a 37 s.heap.size) s.heap s.heap [] := va_S.rf
  have hl := lv_entry ([.ref (a 6), .int p1]) (n := 2) (Nat.le_of_ble_eq_true rfl)
  rw [lg_entry_eq]
  generalize (lg_sl ([.ref (a 6), .int p1]) ++ List.replicate (2 - (lg_sl ([.ref (a 6), .int p1])).length) Slot.unset).toArray = ls at hl ⊢
  have hl : lv_has ls 2 [(0, .ref (a 6)), (1, .int p1)] := hl
  unfold mX0_addAt at hm
  refine lv_aload_n hx hb dX0_addAt_0 rfl (lv_at hl 0 rfl) ?_
  refine gfX0_known hx hb h_X0 hown hK hP l_f25 dX0_addAt_1 ?_
  refine lv_if_lt (tgt := 77) hx hb dX0_addAt_4 (by decide) (fun c1 => ?_) (fun c1 => ?_)
  · have hm := (if_pos c1).symm.trans hm
    exact W.vret hx hb hr (fun T hT hW => ⟨⟨σ, rfl, Option.some.inj hm, by rw [posW, hT]; exact hP⟩, hS.F hT⟩) hS.2.2 dX0_addAt_77
  · have hm := (if_neg c1).symm.trans hm
    refine lv_aload_n hx hb dX0_addAt_7 rfl (lv_at hl 0 rfl) ?_
    refine gfX0_known hx hb h_X0 hown hK hP l_f25 dX0_addAt_8 ?_
    refine lv_bipush (v := 60) hx hb dX0_addAt_11 (by decide) ?_
    refine lv_icmp_ge (tgt := 77) hx hb dX0_addAt_13 (by decide) (fun c2 => ?_) (fun c2 => ?_)
    · have hm := (if_pos c2).symm.trans hm
      exact W.vret hx hb hr (fun T hT hW => ⟨⟨σ, rfl, Option.some.inj hm, by rw [posW, hT]; exact hP⟩, hS.F hT⟩) hS.2.2 dX0_addAt_77
    · have hm := (if_neg c2).symm.trans hm
      refine lv_aload_n hx hb dX0_addAt_16 rfl (lv_at hl 0 rfl) ?_
      refine gfX0_firsts hx hb h_X0 hown hK hP l_f9 dX0_addAt_17 ?_
      refine lv_aload_n hx hb dX0_addAt_20 rfl (lv_at hl 0 rfl) ?_
      refine gfX0_known hx hb h_X0 hown hK hP l_f25 dX0_addAt_21 ?_
      refine lv_iload_n hx hb dX0_addAt_24 rfl (lv_at hl 1 rfl) ?_
      obtain ⟨hi, hm⟩ := ok_I hm
      refine stC_33 hx hb hK hP hI AC_in hS hi dX0_addAt_25 (fun H locs hP hS => ?_)
      generalize es3 : su σ 36 (upd (σ.1 36) (σ.1 9 0).toNatClampNeg p1) = s3 at hP
      have hm := bnd_x es3.symm hm
      refine lv_aload_n hx hb dX0_addAt_26 rfl (lv_at hl 0 rfl) ?_
      refine gfX0_lasts hx hb h_X0 hown hK hP l_f15 dX0_addAt_27 ?_
      refine lv_aload_n hx hb dX0_addAt_30 rfl (lv_at hl 0 rfl) ?_
      refine gfX0_known hx hb h_X0 hown hK hP l_f25 dX0_addAt_31 ?_
      refine lv_iconst (v := (-1)) hx hb dX0_addAt_34 (by decide) ?_
      obtain ⟨hi, hm⟩ := ok_I hm
      refine stC_34 hx hb hK hP hI AC_in hS hi dX0_addAt_35 (fun H locs hP hS => ?_)
      generalize es4 : su s3 37 (upd (s3.1 37) (s3.1 9 0).toNatClampNeg (-1)) = s4 at hP
      have hm := bnd_x es4.symm hm
      refine lv_aload_n hx hb dX0_addAt_36 rfl (lv_at hl 0 rfl) ?_
      refine gfX0_outers hx hb h_X0 hown hK hP l_f18 dX0_addAt_37 ?_
      refine lv_aload_n hx hb dX0_addAt_40 rfl (lv_at hl 0 rfl) ?_
      refine gfX0_known hx hb h_X0 hown hK hP l_f25 dX0_addAt_41 ?_
      refine lv_aload_n hx hb dX0_addAt_44 rfl (lv_at hl 0 rfl) ?_
      refine gfX0_innermost hx hb h_X0 hown hK hP l_f21 dX0_addAt_45 ?_
      obtain ⟨hi, hm⟩ := ok_I hm
      refine stC_35 hx hb hK hP hI AC_in hS hi dX0_addAt_48 (fun H locs hP hS => ?_)
      generalize es5 : su s4 38 (upd (s4.1 38) (s4.1 9 0).toNatClampNeg (s4.1 11 0)) = s5 at hP
      have hm := bnd_x es5.symm hm
      refine lv_aload_n hx hb dX0_addAt_49 rfl (lv_at hl 0 rfl) ?_
      refine lv_aload_n hx hb dX0_addAt_50 rfl (lv_at hl 0 rfl) ?_
      refine gfX0_known hx hb h_X0 hown hK hP l_f25 dX0_addAt_51 ?_
      refine pfX0_innermost hx hb h_X0 hown hK hP hI AC_in hS l_f21 dX0_addAt_54 (fun H locs hP hS => ?_)
      generalize es6 : su s5 11 (fun _ => s5.1 9 0) = s6 at hP
      have hm := bnd_x es6.symm hm
      refine lv_aload_n hx hb dX0_addAt_57 rfl (lv_at hl 0 rfl) ?_
      refine lv_dup hx hb dX0_addAt_58 rfl ?_
      refine gfX0_known hx hb h_X0 hown hK hP l_f25 dX0_addAt_59 ?_
      refine lv_iconst (v := 1) hx hb dX0_addAt_62 (by decide) ?_
      refine lv_iadd hx hb dX0_addAt_63 ?_
      refine pfX0_known hx hb h_X0 hown hK hP hI AC_in hS l_f25 dX0_addAt_64 (fun H locs hP hS => ?_)
      generalize es7 : su s6 9 (fun _ => (s6.1 9 0) + 1) = s7 at hP
      have hm := bnd_x es7.symm hm
      refine lv_aload_n hx hb dX0_addAt_67 rfl (lv_at hl 0 rfl) ?_
      refine lv_dup hx hb dX0_addAt_68 rfl ?_
      refine gfX0_open hx hb h_X0 hown hK hP l_f28 dX0_addAt_69 ?_
      refine lv_iconst (v := 1) hx hb dX0_addAt_72 (by decide) ?_
      refine lv_iadd hx hb dX0_addAt_73 ?_
      refine pfX0_open hx hb h_X0 hown hK hP hI AC_in hS l_f28 dX0_addAt_74 (fun H locs hP hS => ?_)
      generalize es8 : su s7 10 (fun _ => (s7.1 10 0) + 1) = s8 at hP
      have hm := bnd_x es8.symm hm
      exact W.vret hx hb hr (fun T hT hW => ⟨⟨s8, rfl, Option.some.inj hm, by rw [posW, hT]; exact hP⟩, hS.F hT⟩) hS.2.2 dX0_addAt_77
theorem eX0_shutAt : yX0_shutAt.cls = RX0 ∧ yX0_shutAt.cls ≠ "java/lang/invoke/MethodHandle" ∧ yX0_shutAt.cls ≠ "java/lang/invoke/VarHandle" ∧ (parseMethodDescriptor yX0_shutAt.desc).map (fun d => d.parameters.length) = some 1 := by decide +kernel
def mX0_shutAt (σ : St) (p1 : Int32) : Option St :=
bnd (σ.1 11 0) fun x1 =>
if x1 < 0 then (
some σ)
else (
if (σ.1 9 0) ≤ x1 then (
some σ)
else (
chkI x1 60 (
bnd (su σ 37 (upd (σ.1 37) x1.toNatClampNeg p1)) fun s4 =>
chkI x1 60 (
bnd (su s4 11 (fun _ => s4.1 38 x1.toNatClampNeg)) fun s5 =>
bnd (su s5 10 (fun _ => (s5.1 10 0) - 1)) fun s6 =>
some s6))))
set_option maxHeartbeats 4000000 in
set_option maxRecDepth 100000 in
theorem kX0_shutAt (l : Launch) (D : va_G) (y : Nat → ClassId) (a t : Nat → Nat) (hI : AI a 37) (sz : Nat) (σ τ : St) (p1 : Int32) (hm : mX0_shutAt σ p1 = some τ) : Met l yX0_shutAt zX0_shutAt { frames := 0, cells := 0, slots := 0, locals := 0 } (va_Pc [.ref (a 6), .int p1] (preW (wC y a) a 37 D y t σ sz)) (va_Qv (fun u => u = τ) (posW (wC y a) D) (AC a 37 sz)) 0 0 (AC a 37 sz) := by
  refine Met.ofW (cc := cX0_shutAt) (maxL := 3) (ret := none) (by decide) rfl ?_
  intro p e s m args below meth c s₁ B hml hv
  obtain ⟨rfl, hsz, hP, hK, hF⟩ := hv
  have hx := B.exec
  have hb := B.bytes
  have hr := B.returns
  have hts := atoms_spec (ws := zX0_shutAt) B.pre
  have hown : s.vm.findClass RX0 = some m.cls := findClass_of_methodNamed B.named
  have hlocks := B.notSynchronized
  subst hsz
  have l_f21 := hts _ (List.mem_cons_of_mem _ aF_X0_21)
  have l_f25 := hts _ (List.mem_cons_of_mem _ aF_X0_25)
  have l_f15 := hts _ (List.mem_cons_of_mem _ aF_X0_15)
  have l_f18 := hts _ (List.mem_cons_of_mem _ aF_X0_18)
  have l_f28 := hts _ (List.mem_cons_of_mem _ aF_X0_28)
  have h_X0 : ∀ w ∈ wsX00, w.before _ s = true := fun w hw => hts w (List.mem_cons_of_mem _ (hwX0 w hw))
  have hS : va_S (AC a 37 s.heap.size) s.heap s.heap [] := va_S.rf
  have hl := lv_entry ([.ref (a 6), .int p1]) (n := 3) (Nat.le_of_ble_eq_true rfl)
  rw [lg_entry_eq]
  generalize (lg_sl ([.ref (a 6), .int p1]) ++ List.replicate (3 - (lg_sl ([.ref (a 6), .int p1])).length) Slot.unset).toArray = ls at hl ⊢
  have hl : lv_has ls 3 [(0, .ref (a 6)), (1, .int p1)] := hl
  unfold mX0_shutAt at hm
  refine lv_aload_n hx hb dX0_shutAt_0 rfl (lv_at hl 0 rfl) ?_
  refine gfX0_innermost hx hb h_X0 hown hK hP l_f21 dX0_shutAt_1 ?_
  refine lv_topi (fun x1 ex1 => ?_)
  have hm := bnd_x ex1 hm
  refine lv_istore_n (lv' := [(2, .int x1), (0, .ref (a 6)), (1, .int p1)]) hx hb dX0_shutAt_4 rfl hl (by decide) rfl (fun ls hl => ?_)
  refine lv_iload_n hx hb dX0_shutAt_5 rfl (lv_at hl 0 rfl) ?_
  refine lv_if_lt (tgt := 44) hx hb dX0_shutAt_6 (by decide) (fun c2 => ?_) (fun c2 => ?_)
  · have hm := (if_pos c2).symm.trans hm
    exact W.vret hx hb hr (fun T hT hW => ⟨⟨σ, rfl, Option.some.inj hm, by rw [posW, hT]; exact hP⟩, hS.F hT⟩) hS.2.2 dX0_shutAt_44
  · have hm := (if_neg c2).symm.trans hm
    refine lv_iload_n hx hb dX0_shutAt_9 rfl (lv_at hl 0 rfl) ?_
    refine lv_aload_n hx hb dX0_shutAt_10 rfl (lv_at hl 1 rfl) ?_
    refine gfX0_known hx hb h_X0 hown hK hP l_f25 dX0_shutAt_11 ?_
    refine lv_icmp_ge (tgt := 44) hx hb dX0_shutAt_14 (by decide) (fun c3 => ?_) (fun c3 => ?_)
    · have hm := (if_pos c3).symm.trans hm
      exact W.vret hx hb hr (fun T hT hW => ⟨⟨σ, rfl, Option.some.inj hm, by rw [posW, hT]; exact hP⟩, hS.F hT⟩) hS.2.2 dX0_shutAt_44
    · have hm := (if_neg c3).symm.trans hm
      refine lv_aload_n hx hb dX0_shutAt_17 rfl (lv_at hl 1 rfl) ?_
      refine gfX0_lasts hx hb h_X0 hown hK hP l_f15 dX0_shutAt_18 ?_
      refine lv_iload_n hx hb dX0_shutAt_21 rfl (lv_at hl 0 rfl) ?_
      refine lv_iload_n hx hb dX0_shutAt_22 rfl (lv_at hl 2 rfl) ?_
      obtain ⟨hi, hm⟩ := ok_I hm
      refine stC_34 hx hb hK hP hI AC_in hS hi dX0_shutAt_23 (fun H locs hP hS => ?_)
      generalize es4 : su σ 37 (upd (σ.1 37) x1.toNatClampNeg p1) = s4 at hP
      have hm := bnd_x es4.symm hm
      refine lv_aload_n hx hb dX0_shutAt_24 rfl (lv_at hl 1 rfl) ?_
      refine lv_aload_n hx hb dX0_shutAt_25 rfl (lv_at hl 1 rfl) ?_
      refine gfX0_outers hx hb h_X0 hown hK hP l_f18 dX0_shutAt_26 ?_
      refine lv_iload_n hx hb dX0_shutAt_29 rfl (lv_at hl 0 rfl) ?_
      obtain ⟨hi, hm⟩ := ok_I hm
      refine ldC_35 hx hb hK hP hi dX0_shutAt_30 ?_
      refine pfX0_innermost hx hb h_X0 hown hK hP hI AC_in hS l_f21 dX0_shutAt_31 (fun H locs hP hS => ?_)
      generalize es5 : su s4 11 (fun _ => s4.1 38 x1.toNatClampNeg) = s5 at hP
      have hm := bnd_x es5.symm hm
      refine lv_aload_n hx hb dX0_shutAt_34 rfl (lv_at hl 1 rfl) ?_
      refine lv_dup hx hb dX0_shutAt_35 rfl ?_
      refine gfX0_open hx hb h_X0 hown hK hP l_f28 dX0_shutAt_36 ?_
      refine lv_iconst (v := 1) hx hb dX0_shutAt_39 (by decide) ?_
      refine lv_isub hx hb dX0_shutAt_40 ?_
      refine pfX0_open hx hb h_X0 hown hK hP hI AC_in hS l_f28 dX0_shutAt_41 (fun H locs hP hS => ?_)
      generalize es6 : su s5 10 (fun _ => (s5.1 10 0) - 1) = s6 at hP
      have hm := bnd_x es6.symm hm
      exact W.vret hx hb hr (fun T hT hW => ⟨⟨s6, rfl, Option.some.inj hm, by rw [posW, hT]; exact hP⟩, hS.F hT⟩) hS.2.2 dX0_shutAt_44
theorem eX0_reopen : yX0_reopen.cls = RX0 ∧ yX0_reopen.cls ≠ "java/lang/invoke/MethodHandle" ∧ yX0_reopen.cls ≠ "java/lang/invoke/VarHandle" ∧ (parseMethodDescriptor yX0_reopen.desc).map (fun d => d.parameters.length) = some 1 := by decide +kernel
def mX0_reopen (σ : St) (p1 : Int32) : Option St :=
if p1 < 0 then (
some σ)
else (
if (σ.1 9 0) ≤ p1 then (
some σ)
else (
chkI p1 60 (
bnd (su σ 37 (upd (σ.1 37) p1.toNatClampNeg (-1))) fun s3 =>
bnd (su s3 11 (fun _ => p1)) fun s4 =>
bnd (su s4 10 (fun _ => (s4.1 10 0) + 1)) fun s5 =>
some s5)))
set_option maxHeartbeats 4000000 in
set_option maxRecDepth 100000 in
theorem kX0_reopen (l : Launch) (D : va_G) (y : Nat → ClassId) (a t : Nat → Nat) (hI : AI a 37) (sz : Nat) (σ τ : St) (p1 : Int32) (hm : mX0_reopen σ p1 = some τ) : Met l yX0_reopen zX0_reopen { frames := 0, cells := 0, slots := 0, locals := 0 } (va_Pc [.ref (a 6), .int p1] (preW (wC y a) a 37 D y t σ sz)) (va_Qv (fun u => u = τ) (posW (wC y a) D) (AC a 37 sz)) 0 0 (AC a 37 sz) := by
  refine Met.ofW (cc := cX0_reopen) (maxL := 2) (ret := none) (by decide) rfl ?_
  intro p e s m args below meth c s₁ B hml hv
  obtain ⟨rfl, hsz, hP, hK, hF⟩ := hv
  have hx := B.exec
  have hb := B.bytes
  have hr := B.returns
  have hts := atoms_spec (ws := zX0_reopen) B.pre
  have hown : s.vm.findClass RX0 = some m.cls := findClass_of_methodNamed B.named
  have hlocks := B.notSynchronized
  subst hsz
  have l_f25 := hts _ (List.mem_cons_of_mem _ aF_X0_25)
  have l_f15 := hts _ (List.mem_cons_of_mem _ aF_X0_15)
  have l_f21 := hts _ (List.mem_cons_of_mem _ aF_X0_21)
  have l_f28 := hts _ (List.mem_cons_of_mem _ aF_X0_28)
  have h_X0 : ∀ w ∈ wsX00, w.before _ s = true := fun w hw => hts w (List.mem_cons_of_mem _ (hwX0 w hw))
  have hS : va_S (AC a 37 s.heap.size) s.heap s.heap [] := va_S.rf
  have hl := lv_entry ([.ref (a 6), .int p1]) (n := 2) (Nat.le_of_ble_eq_true rfl)
  rw [lg_entry_eq]
  generalize (lg_sl ([.ref (a 6), .int p1]) ++ List.replicate (2 - (lg_sl ([.ref (a 6), .int p1])).length) Slot.unset).toArray = ls at hl ⊢
  have hl : lv_has ls 2 [(0, .ref (a 6)), (1, .int p1)] := hl
  unfold mX0_reopen at hm
  refine lv_iload_n hx hb dX0_reopen_0 rfl (lv_at hl 1 rfl) ?_
  refine lv_if_lt (tgt := 34) hx hb dX0_reopen_1 (by decide) (fun c1 => ?_) (fun c1 => ?_)
  · have hm := (if_pos c1).symm.trans hm
    exact W.vret hx hb hr (fun T hT hW => ⟨⟨σ, rfl, Option.some.inj hm, by rw [posW, hT]; exact hP⟩, hS.F hT⟩) hS.2.2 dX0_reopen_34
  · have hm := (if_neg c1).symm.trans hm
    refine lv_iload_n hx hb dX0_reopen_4 rfl (lv_at hl 1 rfl) ?_
    refine lv_aload_n hx hb dX0_reopen_5 rfl (lv_at hl 0 rfl) ?_
    refine gfX0_known hx hb h_X0 hown hK hP l_f25 dX0_reopen_6 ?_
    refine lv_icmp_ge (tgt := 34) hx hb dX0_reopen_9 (by decide) (fun c2 => ?_) (fun c2 => ?_)
    · have hm := (if_pos c2).symm.trans hm
      exact W.vret hx hb hr (fun T hT hW => ⟨⟨σ, rfl, Option.some.inj hm, by rw [posW, hT]; exact hP⟩, hS.F hT⟩) hS.2.2 dX0_reopen_34
    · have hm := (if_neg c2).symm.trans hm
      refine lv_aload_n hx hb dX0_reopen_12 rfl (lv_at hl 0 rfl) ?_
      refine gfX0_lasts hx hb h_X0 hown hK hP l_f15 dX0_reopen_13 ?_
      refine lv_iload_n hx hb dX0_reopen_16 rfl (lv_at hl 1 rfl) ?_
      refine lv_iconst (v := (-1)) hx hb dX0_reopen_17 (by decide) ?_
      obtain ⟨hi, hm⟩ := ok_I hm
      refine stC_34 hx hb hK hP hI AC_in hS hi dX0_reopen_18 (fun H locs hP hS => ?_)
      generalize es3 : su σ 37 (upd (σ.1 37) p1.toNatClampNeg (-1)) = s3 at hP
      have hm := bnd_x es3.symm hm
      refine lv_aload_n hx hb dX0_reopen_19 rfl (lv_at hl 0 rfl) ?_
      refine lv_iload_n hx hb dX0_reopen_20 rfl (lv_at hl 1 rfl) ?_
      refine pfX0_innermost hx hb h_X0 hown hK hP hI AC_in hS l_f21 dX0_reopen_21 (fun H locs hP hS => ?_)
      generalize es4 : su s3 11 (fun _ => p1) = s4 at hP
      have hm := bnd_x es4.symm hm
      refine lv_aload_n hx hb dX0_reopen_24 rfl (lv_at hl 0 rfl) ?_
      refine lv_dup hx hb dX0_reopen_25 rfl ?_
      refine gfX0_open hx hb h_X0 hown hK hP l_f28 dX0_reopen_26 ?_
      refine lv_iconst (v := 1) hx hb dX0_reopen_29 (by decide) ?_
      refine lv_iadd hx hb dX0_reopen_30 ?_
      refine pfX0_open hx hb h_X0 hown hK hP hI AC_in hS l_f28 dX0_reopen_31 (fun H locs hP hS => ?_)
      generalize es5 : su s4 10 (fun _ => (s4.1 10 0) + 1) = s5 at hP
      have hm := bnd_x es5.symm hm
      exact W.vret hx hb hr (fun T hT hW => ⟨⟨s5, rfl, Option.some.inj hm, by rw [posW, hT]; exact hP⟩, hS.F hT⟩) hS.2.2 dX0_reopen_34
theorem eX0_dropLatest : yX0_dropLatest.cls = RX0 ∧ yX0_dropLatest.cls ≠ "java/lang/invoke/MethodHandle" ∧ yX0_dropLatest.cls ≠ "java/lang/invoke/VarHandle" ∧ (parseMethodDescriptor yX0_dropLatest.desc).map (fun d => d.parameters.length) = some 0 := by decide +kernel
def mX0_dropLatest (σ : St) : Option St :=
bnd ((σ.1 9 0) - 1) fun x1 =>
if x1 < 0 then (
some σ)
else (
if 60 ≤ x1 then (
some σ)
else (
chkI x1 60 (
bnd (su σ 11 (fun _ => σ.1 38 x1.toNatClampNeg)) fun s4 =>
bnd (su s4 10 (fun _ => (s4.1 10 0) - 1)) fun s5 =>
bnd (su s5 9 (fun _ => (s5.1 9 0) - 1)) fun s6 =>
some s6)))
set_option maxHeartbeats 4000000 in
set_option maxRecDepth 100000 in
theorem kX0_dropLatest (l : Launch) (D : va_G) (y : Nat → ClassId) (a t : Nat → Nat) (hI : AI a 37) (sz : Nat) (σ τ : St) (hm : mX0_dropLatest σ = some τ) : Met l yX0_dropLatest zX0_dropLatest { frames := 0, cells := 0, slots := 0, locals := 0 } (va_Pc [.ref (a 6)] (preW (wC y a) a 37 D y t σ sz)) (va_Qv (fun u => u = τ) (posW (wC y a) D) (AC a 37 sz)) 0 0 (AC a 37 sz) := by
  refine Met.ofW (cc := cX0_dropLatest) (maxL := 2) (ret := none) (by decide) rfl ?_
  intro p e s m args below meth c s₁ B hml hv
  obtain ⟨rfl, hsz, hP, hK, hF⟩ := hv
  have hx := B.exec
  have hb := B.bytes
  have hr := B.returns
  have hts := atoms_spec (ws := zX0_dropLatest) B.pre
  have hown : s.vm.findClass RX0 = some m.cls := findClass_of_methodNamed B.named
  have hlocks := B.notSynchronized
  subst hsz
  have l_f25 := hts _ (List.mem_cons_of_mem _ aF_X0_25)
  have l_f18 := hts _ (List.mem_cons_of_mem _ aF_X0_18)
  have l_f21 := hts _ (List.mem_cons_of_mem _ aF_X0_21)
  have l_f28 := hts _ (List.mem_cons_of_mem _ aF_X0_28)
  have h_X0 : ∀ w ∈ wsX00, w.before _ s = true := fun w hw => hts w (List.mem_cons_of_mem _ (hwX0 w hw))
  have hS : va_S (AC a 37 s.heap.size) s.heap s.heap [] := va_S.rf
  have hl := lv_entry ([.ref (a 6)]) (n := 2) (Nat.le_of_ble_eq_true rfl)
  rw [lg_entry_eq]
  generalize (lg_sl ([.ref (a 6)]) ++ List.replicate (2 - (lg_sl ([.ref (a 6)])).length) Slot.unset).toArray = ls at hl ⊢
  have hl : lv_has ls 2 [(0, .ref (a 6))] := hl
  unfold mX0_dropLatest at hm
  refine lv_aload_n hx hb dX0_dropLatest_0 rfl (lv_at hl 0 rfl) ?_
  refine gfX0_known hx hb h_X0 hown hK hP l_f25 dX0_dropLatest_1 ?_
  refine lv_iconst (v := 1) hx hb dX0_dropLatest_4 (by decide) ?_
  refine lv_isub hx hb dX0_dropLatest_5 ?_
  refine lv_topi (fun x1 ex1 => ?_)
  have hm := bnd_x ex1 hm
  refine lv_istore_n (lv' := [(1, .int x1), (0, .ref (a 6))]) hx hb dX0_dropLatest_6 rfl hl (by decide) rfl (fun ls hl => ?_)
  refine lv_iload_n hx hb dX0_dropLatest_7 rfl (lv_at hl 0 rfl) ?_
  refine lv_if_lt (tgt := 47) hx hb dX0_dropLatest_8 (by decide) (fun c2 => ?_) (fun c2 => ?_)
  · have hm := (if_pos c2).symm.trans hm
    exact W.vret hx hb hr (fun T hT hW => ⟨⟨σ, rfl, Option.some.inj hm, by rw [posW, hT]; exact hP⟩, hS.F hT⟩) hS.2.2 dX0_dropLatest_47
  · have hm := (if_neg c2).symm.trans hm
    refine lv_iload_n hx hb dX0_dropLatest_11 rfl (lv_at hl 0 rfl) ?_
    refine lv_bipush (v := 60) hx hb dX0_dropLatest_12 (by decide) ?_
    refine lv_icmp_ge (tgt := 47) hx hb dX0_dropLatest_14 (by decide) (fun c3 => ?_) (fun c3 => ?_)
    · have hm := (if_pos c3).symm.trans hm
      exact W.vret hx hb hr (fun T hT hW => ⟨⟨σ, rfl, Option.some.inj hm, by rw [posW, hT]; exact hP⟩, hS.F hT⟩) hS.2.2 dX0_dropLatest_47
    · have hm := (if_neg c3).symm.trans hm
      refine lv_aload_n hx hb dX0_dropLatest_17 rfl (lv_at hl 1 rfl) ?_
      refine lv_aload_n hx hb dX0_dropLatest_18 rfl (lv_at hl 1 rfl) ?_
      refine gfX0_outers hx hb h_X0 hown hK hP l_f18 dX0_dropLatest_19 ?_
      refine lv_iload_n hx hb dX0_dropLatest_22 rfl (lv_at hl 0 rfl) ?_
      obtain ⟨hi, hm⟩ := ok_I hm
      refine ldC_35 hx hb hK hP hi dX0_dropLatest_23 ?_
      refine pfX0_innermost hx hb h_X0 hown hK hP hI AC_in hS l_f21 dX0_dropLatest_24 (fun H locs hP hS => ?_)
      generalize es4 : su σ 11 (fun _ => σ.1 38 x1.toNatClampNeg) = s4 at hP
      have hm := bnd_x es4.symm hm
      refine lv_aload_n hx hb dX0_dropLatest_27 rfl (lv_at hl 1 rfl) ?_
      refine lv_dup hx hb dX0_dropLatest_28 rfl ?_
      refine gfX0_open hx hb h_X0 hown hK hP l_f28 dX0_dropLatest_29 ?_
      refine lv_iconst (v := 1) hx hb dX0_dropLatest_32 (by decide) ?_
      refine lv_isub hx hb dX0_dropLatest_33 ?_
      refine pfX0_open hx hb h_X0 hown hK hP hI AC_in hS l_f28 dX0_dropLatest_34 (fun H locs hP hS => ?_)
      generalize es5 : su s4 10 (fun _ => (s4.1 10 0) - 1) = s5 at hP
      have hm := bnd_x es5.symm hm
      refine lv_aload_n hx hb dX0_dropLatest_37 rfl (lv_at hl 1 rfl) ?_
      refine lv_dup hx hb dX0_dropLatest_38 rfl ?_
      refine gfX0_known hx hb h_X0 hown hK hP l_f25 dX0_dropLatest_39 ?_
      refine lv_iconst (v := 1) hx hb dX0_dropLatest_42 (by decide) ?_
      refine lv_isub hx hb dX0_dropLatest_43 ?_
      refine pfX0_known hx hb h_X0 hown hK hP hI AC_in hS l_f25 dX0_dropLatest_44 (fun H locs hP hS => ?_)
      generalize es6 : su s5 9 (fun _ => (s5.1 9 0) - 1) = s6 at hP
      have hm := bnd_x es6.symm hm
      exact W.vret hx hb hr (fun T hT hW => ⟨⟨s6, rfl, Option.some.inj hm, by rw [posW, hT]; exact hP⟩, hS.F hT⟩) hS.2.2 dX0_dropLatest_47
theorem eX1_known : yX1_known.cls = RX1 ∧ yX1_known.cls ≠ "java/lang/invoke/MethodHandle" ∧ yX1_known.cls ≠ "java/lang/invoke/VarHandle" ∧ (parseMethodDescriptor yX1_known.desc).map (fun d => d.parameters.length) = some 0 := by decide +kernel
def mX1_known (σ : St) : Option Int32 :=
some (σ.1 0 0)
set_option maxHeartbeats 4000000 in
set_option maxRecDepth 100000 in
theorem kX1_known (l : Launch) (D : va_G) (y : Nat → ClassId) (a t : Nat → Nat) (hI : AI a 37) (sz : Nat) (σ : St) (r : Int32) (hm : mX1_known σ = some r) : Met l yX1_known zX1_known { frames := 0, cells := 0, slots := 0, locals := 0 } (va_Pc [.ref (a 1)] (preW (wC y a) a 37 D y t σ sz)) (va_Qi (fun r' u => r' = r ∧ u = σ) (posW (wC y a) D) (AC a 37 sz)) 0 0 (AC a 37 sz) := by
  refine Met.ofW (cc := cX1_known) (maxL := 1) (ret := (some .int)) (by decide) rfl ?_
  intro p e s m args below meth c s₁ B hml hv
  obtain ⟨rfl, hsz, hP, hK, hF⟩ := hv
  have hx := B.exec
  have hb := B.bytes
  have hr := B.returns
  have hts := atoms_spec (ws := zX1_known) B.pre
  have hown : s.vm.findClass RX1 = some m.cls := findClass_of_methodNamed B.named
  have hlocks := B.notSynchronized
  subst hsz
  have l_f34 := hts _ (List.mem_cons_of_mem _ aF_X1_34)
  have h_X1 : ∀ w ∈ wsX10, w.before _ s = true := fun w hw => hts w (List.mem_cons_of_mem _ (hwX1 w hw))
  have hS : va_S (AC a 37 s.heap.size) s.heap s.heap [] := va_S.rf
  have hl := lv_entry ([.ref (a 1)]) (n := 1) (Nat.le_of_ble_eq_true rfl)
  rw [lg_entry_eq]
  generalize (lg_sl ([.ref (a 1)]) ++ List.replicate (1 - (lg_sl ([.ref (a 1)])).length) Slot.unset).toArray = ls at hl ⊢
  have hl : lv_has ls 1 [(0, .ref (a 1))] := hl
  unfold mX1_known at hm
  refine lv_aload_n hx hb dX1_known_0 rfl (lv_at hl 0 rfl) ?_
  refine gfX1_known hx hb h_X1 hown hK hP l_f34 dX1_known_1 ?_
  exact W.iret (v := σ.1 0 0) hx hb hr (fun T hT hW => ⟨⟨σ.1 0 0, σ, rfl, ⟨Option.some.inj hm, rfl⟩, by rw [posW, hT]; exact hP⟩, hS.F hT⟩) hS.2.2 dX1_known_4
theorem eX1_isKnown : yX1_isKnown.cls = RX1 ∧ yX1_isKnown.cls ≠ "java/lang/invoke/MethodHandle" ∧ yX1_isKnown.cls ≠ "java/lang/invoke/VarHandle" ∧ (parseMethodDescriptor yX1_isKnown.desc).map (fun d => d.parameters.length) = some 1 := by decide +kernel
def mX1_isKnown (σ : St) (p1 : Int32) : Option Int32 :=
if p1 < 0 then (
some 0)
else (
if (σ.1 0 0) ≤ p1 then (
some 0)
else (
some 1))
set_option maxHeartbeats 4000000 in
set_option maxRecDepth 100000 in
theorem kX1_isKnown (l : Launch) (D : va_G) (y : Nat → ClassId) (a t : Nat → Nat) (hI : AI a 37) (sz : Nat) (σ : St) (p1 : Int32) (r : Int32) (hm : mX1_isKnown σ p1 = some r) : Met l yX1_isKnown zX1_isKnown { frames := 0, cells := 0, slots := 0, locals := 0 } (va_Pc [.ref (a 1), .int p1] (preW (wC y a) a 37 D y t σ sz)) (va_Qi (fun r' u => r' = r ∧ u = σ) (posW (wC y a) D) (AC a 37 sz)) 0 0 (AC a 37 sz) := by
  refine Met.ofW (cc := cX1_isKnown) (maxL := 2) (ret := (some .boolean)) (by decide) rfl ?_
  intro p e s m args below meth c s₁ B hml hv
  obtain ⟨rfl, hsz, hP, hK, hF⟩ := hv
  have hx := B.exec
  have hb := B.bytes
  have hr := B.returns
  have hts := atoms_spec (ws := zX1_isKnown) B.pre
  have hown : s.vm.findClass RX1 = some m.cls := findClass_of_methodNamed B.named
  have hlocks := B.notSynchronized
  subst hsz
  have l_f34 := hts _ (List.mem_cons_of_mem _ aF_X1_34)
  have h_X1 : ∀ w ∈ wsX10, w.before _ s = true := fun w hw => hts w (List.mem_cons_of_mem _ (hwX1 w hw))
  have hS : va_S (AC a 37 s.heap.size) s.heap s.heap [] := va_S.rf
  have hl := lv_entry ([.ref (a 1), .int p1]) (n := 2) (Nat.le_of_ble_eq_true rfl)
  rw [lg_entry_eq]
  generalize (lg_sl ([.ref (a 1), .int p1]) ++ List.replicate (2 - (lg_sl ([.ref (a 1), .int p1])).length) Slot.unset).toArray = ls at hl ⊢
  have hl : lv_has ls 2 [(0, .ref (a 1)), (1, .int p1)] := hl
  unfold mX1_isKnown at hm
  refine lv_iload_n hx hb dX1_isKnown_0 rfl (lv_at hl 1 rfl) ?_
  refine lv_if_lt (tgt := 16) hx hb dX1_isKnown_1 (by decide) (fun c1 => ?_) (fun c1 => ?_)
  · have hm := (if_pos c1).symm.trans hm
    refine lv_iconst (v := 0) hx hb dX1_isKnown_16 (by decide) ?_
    exact W.zret (v := 0) hx hb hr rfl (fun T hT hW => ⟨⟨0, σ, rfl, ⟨Option.some.inj hm, rfl⟩, by rw [posW, hT]; exact hP⟩, hS.F hT⟩) hS.2.2 dX1_isKnown_17
  · have hm := (if_neg c1).symm.trans hm
    refine lv_iload_n hx hb dX1_isKnown_4 rfl (lv_at hl 1 rfl) ?_
    refine lv_aload_n hx hb dX1_isKnown_5 rfl (lv_at hl 0 rfl) ?_
    refine gfX1_known hx hb h_X1 hown hK hP l_f34 dX1_isKnown_6 ?_
    refine lv_icmp_ge (tgt := 16) hx hb dX1_isKnown_9 (by decide) (fun c2 => ?_) (fun c2 => ?_)
    · have hm := (if_pos c2).symm.trans hm
      refine lv_iconst (v := 0) hx hb dX1_isKnown_16 (by decide) ?_
      exact W.zret (v := 0) hx hb hr rfl (fun T hT hW => ⟨⟨0, σ, rfl, ⟨Option.some.inj hm, rfl⟩, by rw [posW, hT]; exact hP⟩, hS.F hT⟩) hS.2.2 dX1_isKnown_17
    · have hm := (if_neg c2).symm.trans hm
      refine lv_iconst (v := 1) hx hb dX1_isKnown_12 (by decide) ?_
      refine lv_goto (tgt := 17) hx hb dX1_isKnown_13 (by decide) ?_
      exact W.zret (v := 1) hx hb hr rfl (fun T hT hW => ⟨⟨1, σ, rfl, ⟨Option.some.inj hm, rfl⟩, by rw [posW, hT]; exact hP⟩, hS.F hT⟩) hS.2.2 dX1_isKnown_17
theorem eX1_sort : yX1_sort.cls = RX1 ∧ yX1_sort.cls ≠ "java/lang/invoke/MethodHandle" ∧ yX1_sort.cls ≠ "java/lang/invoke/VarHandle" ∧ (parseMethodDescriptor yX1_sort.desc).map (fun d => d.parameters.length) = some 1 := by decide +kernel
def mX1_sort (σ : St) (p1 : Int32) : Option Int32 :=
if p1 < 0 then (
some (-1))
else (
if (σ.1 0 0) ≤ p1 then (
some (-1))
else (
chkI p1 240 (
some (σ.1 12 p1.toNatClampNeg))))
set_option maxHeartbeats 4000000 in
set_option maxRecDepth 100000 in
theorem kX1_sort (l : Launch) (D : va_G) (y : Nat → ClassId) (a t : Nat → Nat) (hI : AI a 37) (sz : Nat) (σ : St) (p1 : Int32) (r : Int32) (hm : mX1_sort σ p1 = some r) : Met l yX1_sort zX1_sort { frames := 0, cells := 0, slots := 0, locals := 0 } (va_Pc [.ref (a 1), .int p1] (preW (wC y a) a 37 D y t σ sz)) (va_Qi (fun r' u => r' = r ∧ u = σ) (posW (wC y a) D) (AC a 37 sz)) 0 0 (AC a 37 sz) := by
  refine Met.ofW (cc := cX1_sort) (maxL := 2) (ret := (some .int)) (by decide) rfl ?_
  intro p e s m args below meth c s₁ B hml hv
  obtain ⟨rfl, hsz, hP, hK, hF⟩ := hv
  have hx := B.exec
  have hb := B.bytes
  have hr := B.returns
  have hts := atoms_spec (ws := zX1_sort) B.pre
  have hown : s.vm.findClass RX1 = some m.cls := findClass_of_methodNamed B.named
  have hlocks := B.notSynchronized
  subst hsz
  have l_f34 := hts _ (List.mem_cons_of_mem _ aF_X1_34)
  have l_f9 := hts _ (List.mem_cons_of_mem _ aF_X1_9)
  have h_X1 : ∀ w ∈ wsX10, w.before _ s = true := fun w hw => hts w (List.mem_cons_of_mem _ (hwX1 w hw))
  have hS : va_S (AC a 37 s.heap.size) s.heap s.heap [] := va_S.rf
  have hl := lv_entry ([.ref (a 1), .int p1]) (n := 2) (Nat.le_of_ble_eq_true rfl)
  rw [lg_entry_eq]
  generalize (lg_sl ([.ref (a 1), .int p1]) ++ List.replicate (2 - (lg_sl ([.ref (a 1), .int p1])).length) Slot.unset).toArray = ls at hl ⊢
  have hl : lv_has ls 2 [(0, .ref (a 1)), (1, .int p1)] := hl
  unfold mX1_sort at hm
  refine lv_iload_n hx hb dX1_sort_0 rfl (lv_at hl 1 rfl) ?_
  refine lv_if_lt (tgt := 21) hx hb dX1_sort_1 (by decide) (fun c1 => ?_) (fun c1 => ?_)
  · have hm := (if_pos c1).symm.trans hm
    refine lv_iconst (v := (-1)) hx hb dX1_sort_21 (by decide) ?_
    exact W.iret (v := (-1)) hx hb hr (fun T hT hW => ⟨⟨(-1), σ, rfl, ⟨Option.some.inj hm, rfl⟩, by rw [posW, hT]; exact hP⟩, hS.F hT⟩) hS.2.2 dX1_sort_22
  · have hm := (if_neg c1).symm.trans hm
    refine lv_iload_n hx hb dX1_sort_4 rfl (lv_at hl 1 rfl) ?_
    refine lv_aload_n hx hb dX1_sort_5 rfl (lv_at hl 0 rfl) ?_
    refine gfX1_known hx hb h_X1 hown hK hP l_f34 dX1_sort_6 ?_
    refine lv_icmp_ge (tgt := 21) hx hb dX1_sort_9 (by decide) (fun c2 => ?_) (fun c2 => ?_)
    · have hm := (if_pos c2).symm.trans hm
      refine lv_iconst (v := (-1)) hx hb dX1_sort_21 (by decide) ?_
      exact W.iret (v := (-1)) hx hb hr (fun T hT hW => ⟨⟨(-1), σ, rfl, ⟨Option.some.inj hm, rfl⟩, by rw [posW, hT]; exact hP⟩, hS.F hT⟩) hS.2.2 dX1_sort_22
    · have hm := (if_neg c2).symm.trans hm
      refine lv_aload_n hx hb dX1_sort_12 rfl (lv_at hl 0 rfl) ?_
      refine gfX1_sorts hx hb h_X1 hown hK hP l_f9 dX1_sort_13 ?_
      refine lv_iload_n hx hb dX1_sort_16 rfl (lv_at hl 1 rfl) ?_
      obtain ⟨hi, hm⟩ := ok_I hm
      refine ldC_8 hx hb hK hP hi dX1_sort_17 ?_
      refine lv_goto (tgt := 22) hx hb dX1_sort_18 (by decide) ?_
      exact W.iret (v := σ.1 12 p1.toNatClampNeg) hx hb hr (fun T hT hW => ⟨⟨σ.1 12 p1.toNatClampNeg, σ, rfl, ⟨Option.some.inj hm, rfl⟩, by rw [posW, hT]; exact hP⟩, hS.F hT⟩) hS.2.2 dX1_sort_22
theorem eX1_first : yX1_first.cls = RX1 ∧ yX1_first.cls ≠ "java/lang/invoke/MethodHandle" ∧ yX1_first.cls ≠ "java/lang/invoke/VarHandle" ∧ (parseMethodDescriptor yX1_first.desc).map (fun d => d.parameters.length) = some 1 := by decide +kernel
def mX1_first (σ : St) (p1 : Int32) : Option Int32 :=
if p1 < 0 then (
some (-1))
else (
if (σ.1 0 0) ≤ p1 then (
some (-1))
else (
chkI p1 240 (
some (σ.1 13 p1.toNatClampNeg))))
set_option maxHeartbeats 4000000 in
set_option maxRecDepth 100000 in
theorem kX1_first (l : Launch) (D : va_G) (y : Nat → ClassId) (a t : Nat → Nat) (hI : AI a 37) (sz : Nat) (σ : St) (p1 : Int32) (r : Int32) (hm : mX1_first σ p1 = some r) : Met l yX1_first zX1_first { frames := 0, cells := 0, slots := 0, locals := 0 } (va_Pc [.ref (a 1), .int p1] (preW (wC y a) a 37 D y t σ sz)) (va_Qi (fun r' u => r' = r ∧ u = σ) (posW (wC y a) D) (AC a 37 sz)) 0 0 (AC a 37 sz) := by
  refine Met.ofW (cc := cX1_first) (maxL := 2) (ret := (some .int)) (by decide) rfl ?_
  intro p e s m args below meth c s₁ B hml hv
  obtain ⟨rfl, hsz, hP, hK, hF⟩ := hv
  have hx := B.exec
  have hb := B.bytes
  have hr := B.returns
  have hts := atoms_spec (ws := zX1_first) B.pre
  have hown : s.vm.findClass RX1 = some m.cls := findClass_of_methodNamed B.named
  have hlocks := B.notSynchronized
  subst hsz
  have l_f34 := hts _ (List.mem_cons_of_mem _ aF_X1_34)
  have l_f15 := hts _ (List.mem_cons_of_mem _ aF_X1_15)
  have h_X1 : ∀ w ∈ wsX10, w.before _ s = true := fun w hw => hts w (List.mem_cons_of_mem _ (hwX1 w hw))
  have hS : va_S (AC a 37 s.heap.size) s.heap s.heap [] := va_S.rf
  have hl := lv_entry ([.ref (a 1), .int p1]) (n := 2) (Nat.le_of_ble_eq_true rfl)
  rw [lg_entry_eq]
  generalize (lg_sl ([.ref (a 1), .int p1]) ++ List.replicate (2 - (lg_sl ([.ref (a 1), .int p1])).length) Slot.unset).toArray = ls at hl ⊢
  have hl : lv_has ls 2 [(0, .ref (a 1)), (1, .int p1)] := hl
  unfold mX1_first at hm
  refine lv_iload_n hx hb dX1_first_0 rfl (lv_at hl 1 rfl) ?_
  refine lv_if_lt (tgt := 21) hx hb dX1_first_1 (by decide) (fun c1 => ?_) (fun c1 => ?_)
  · have hm := (if_pos c1).symm.trans hm
    refine lv_iconst (v := (-1)) hx hb dX1_first_21 (by decide) ?_
    exact W.iret (v := (-1)) hx hb hr (fun T hT hW => ⟨⟨(-1), σ, rfl, ⟨Option.some.inj hm, rfl⟩, by rw [posW, hT]; exact hP⟩, hS.F hT⟩) hS.2.2 dX1_first_22
  · have hm := (if_neg c1).symm.trans hm
    refine lv_iload_n hx hb dX1_first_4 rfl (lv_at hl 1 rfl) ?_
    refine lv_aload_n hx hb dX1_first_5 rfl (lv_at hl 0 rfl) ?_
    refine gfX1_known hx hb h_X1 hown hK hP l_f34 dX1_first_6 ?_
    refine lv_icmp_ge (tgt := 21) hx hb dX1_first_9 (by decide) (fun c2 => ?_) (fun c2 => ?_)
    · have hm := (if_pos c2).symm.trans hm
      refine lv_iconst (v := (-1)) hx hb dX1_first_21 (by decide) ?_
      exact W.iret (v := (-1)) hx hb hr (fun T hT hW => ⟨⟨(-1), σ, rfl, ⟨Option.some.inj hm, rfl⟩, by rw [posW, hT]; exact hP⟩, hS.F hT⟩) hS.2.2 dX1_first_22
    · have hm := (if_neg c2).symm.trans hm
      refine lv_aload_n hx hb dX1_first_12 rfl (lv_at hl 0 rfl) ?_
      refine gfX1_firsts hx hb h_X1 hown hK hP l_f15 dX1_first_13 ?_
      refine lv_iload_n hx hb dX1_first_16 rfl (lv_at hl 1 rfl) ?_
      obtain ⟨hi, hm⟩ := ok_I hm
      refine ldC_9 hx hb hK hP hi dX1_first_17 ?_
      refine lv_goto (tgt := 22) hx hb dX1_first_18 (by decide) ?_
      exact W.iret (v := σ.1 13 p1.toNatClampNeg) hx hb hr (fun T hT hW => ⟨⟨σ.1 13 p1.toNatClampNeg, σ, rfl, ⟨Option.some.inj hm, rfl⟩, by rw [posW, hT]; exact hP⟩, hS.F hT⟩) hS.2.2 dX1_first_22
theorem eX1_left : yX1_left.cls = RX1 ∧ yX1_left.cls ≠ "java/lang/invoke/MethodHandle" ∧ yX1_left.cls ≠ "java/lang/invoke/VarHandle" ∧ (parseMethodDescriptor yX1_left.desc).map (fun d => d.parameters.length) = some 1 := by decide +kernel
def mX1_left (σ : St) (p1 : Int32) : Option Int32 :=
if p1 < 0 then (
some (-1))
else (
if (σ.1 0 0) ≤ p1 then (
some (-1))
else (
chkI p1 240 (
if (σ.1 12 p1.toNatClampNeg) < 2 then (
some (-1))
else (
chkI p1 240 (
some (σ.1 13 p1.toNatClampNeg))))))
set_option maxHeartbeats 4000000 in
set_option maxRecDepth 100000 in
theorem kX1_left (l : Launch) (D : va_G) (y : Nat → ClassId) (a t : Nat → Nat) (hI : AI a 37) (sz : Nat) (σ : St) (p1 : Int32) (r : Int32) (hm : mX1_left σ p1 = some r) : Met l yX1_left zX1_left { frames := 0, cells := 0, slots := 0, locals := 0 } (va_Pc [.ref (a 1), .int p1] (preW (wC y a) a 37 D y t σ sz)) (va_Qi (fun r' u => r' = r ∧ u = σ) (posW (wC y a) D) (AC a 37 sz)) 0 0 (AC a 37 sz) := by
  refine Met.ofW (cc := cX1_left) (maxL := 2) (ret := (some .int)) (by decide) rfl ?_
  intro p e s m args below meth c s₁ B hml hv
  obtain ⟨rfl, hsz, hP, hK, hF⟩ := hv
  have hx := B.exec
  have hb := B.bytes
  have hr := B.returns
  have hts := atoms_spec (ws := zX1_left) B.pre
  have hown : s.vm.findClass RX1 = some m.cls := findClass_of_methodNamed B.named
  have hlocks := B.notSynchronized
  subst hsz
  have l_f34 := hts _ (List.mem_cons_of_mem _ aF_X1_34)
  have l_f9 := hts _ (List.mem_cons_of_mem _ aF_X1_9)
  have l_f15 := hts _ (List.mem_cons_of_mem _ aF_X1_15)
  have h_X1 : ∀ w ∈ wsX10, w.before _ s = true := fun w hw => hts w (List.mem_cons_of_mem _ (hwX1 w hw))
  have hS : va_S (AC a 37 s.heap.size) s.heap s.heap [] := va_S.rf
  have hl := lv_entry ([.ref (a 1), .int p1]) (n := 2) (Nat.le_of_ble_eq_true rfl)
  rw [lg_entry_eq]
  generalize (lg_sl ([.ref (a 1), .int p1]) ++ List.replicate (2 - (lg_sl ([.ref (a 1), .int p1])).length) Slot.unset).toArray = ls at hl ⊢
  have hl : lv_has ls 2 [(0, .ref (a 1)), (1, .int p1)] := hl
  unfold mX1_left at hm
  refine lv_iload_n hx hb dX1_left_0 rfl (lv_at hl 1 rfl) ?_
  refine lv_if_lt (tgt := 31) hx hb dX1_left_1 (by decide) (fun c1 => ?_) (fun c1 => ?_)
  · have hm := (if_pos c1).symm.trans hm
    refine lv_iconst (v := (-1)) hx hb dX1_left_31 (by decide) ?_
    exact W.iret (v := (-1)) hx hb hr (fun T hT hW => ⟨⟨(-1), σ, rfl, ⟨Option.some.inj hm, rfl⟩, by rw [posW, hT]; exact hP⟩, hS.F hT⟩) hS.2.2 dX1_left_32
  · have hm := (if_neg c1).symm.trans hm
    refine lv_iload_n hx hb dX1_left_4 rfl (lv_at hl 1 rfl) ?_
    refine lv_aload_n hx hb dX1_left_5 rfl (lv_at hl 0 rfl) ?_
    refine gfX1_known hx hb h_X1 hown hK hP l_f34 dX1_left_6 ?_
    refine lv_icmp_ge (tgt := 31) hx hb dX1_left_9 (by decide) (fun c2 => ?_) (fun c2 => ?_)
    · have hm := (if_pos c2).symm.trans hm
      refine lv_iconst (v := (-1)) hx hb dX1_left_31 (by decide) ?_
      exact W.iret (v := (-1)) hx hb hr (fun T hT hW => ⟨⟨(-1), σ, rfl, ⟨Option.some.inj hm, rfl⟩, by rw [posW, hT]; exact hP⟩, hS.F hT⟩) hS.2.2 dX1_left_32
    · have hm := (if_neg c2).symm.trans hm
      refine lv_aload_n hx hb dX1_left_12 rfl (lv_at hl 0 rfl) ?_
      refine gfX1_sorts hx hb h_X1 hown hK hP l_f9 dX1_left_13 ?_
      refine lv_iload_n hx hb dX1_left_16 rfl (lv_at hl 1 rfl) ?_
      obtain ⟨hi, hm⟩ := ok_I hm
      refine ldC_8 hx hb hK hP hi dX1_left_17 ?_
      refine lv_iconst (v := 2) hx hb dX1_left_18 (by decide) ?_
      refine lv_icmp_lt (tgt := 31) hx hb dX1_left_19 (by decide) (fun c3 => ?_) (fun c3 => ?_)
      · have hm := (if_pos c3).symm.trans hm
        refine lv_iconst (v := (-1)) hx hb dX1_left_31 (by decide) ?_
        exact W.iret (v := (-1)) hx hb hr (fun T hT hW => ⟨⟨(-1), σ, rfl, ⟨Option.some.inj hm, rfl⟩, by rw [posW, hT]; exact hP⟩, hS.F hT⟩) hS.2.2 dX1_left_32
      · have hm := (if_neg c3).symm.trans hm
        refine lv_aload_n hx hb dX1_left_22 rfl (lv_at hl 0 rfl) ?_
        refine gfX1_firsts hx hb h_X1 hown hK hP l_f15 dX1_left_23 ?_
        refine lv_iload_n hx hb dX1_left_26 rfl (lv_at hl 1 rfl) ?_
        obtain ⟨hi, hm⟩ := ok_I hm
        refine ldC_9 hx hb hK hP hi dX1_left_27 ?_
        refine lv_goto (tgt := 32) hx hb dX1_left_28 (by decide) ?_
        exact W.iret (v := σ.1 13 p1.toNatClampNeg) hx hb hr (fun T hT hW => ⟨⟨σ.1 13 p1.toNatClampNeg, σ, rfl, ⟨Option.some.inj hm, rfl⟩, by rw [posW, hT]; exact hP⟩, hS.F hT⟩) hS.2.2 dX1_left_32
theorem eX1_second : yX1_second.cls = RX1 ∧ yX1_second.cls ≠ "java/lang/invoke/MethodHandle" ∧ yX1_second.cls ≠ "java/lang/invoke/VarHandle" ∧ (parseMethodDescriptor yX1_second.desc).map (fun d => d.parameters.length) = some 1 := by decide +kernel
def mX1_second (σ : St) (p1 : Int32) : Option Int32 :=
if p1 < 0 then (
some (-1))
else (
if (σ.1 0 0) ≤ p1 then (
some (-1))
else (
chkI p1 240 (
some (σ.1 14 p1.toNatClampNeg))))
set_option maxHeartbeats 4000000 in
set_option maxRecDepth 100000 in
theorem kX1_second (l : Launch) (D : va_G) (y : Nat → ClassId) (a t : Nat → Nat) (hI : AI a 37) (sz : Nat) (σ : St) (p1 : Int32) (r : Int32) (hm : mX1_second σ p1 = some r) : Met l yX1_second zX1_second { frames := 0, cells := 0, slots := 0, locals := 0 } (va_Pc [.ref (a 1), .int p1] (preW (wC y a) a 37 D y t σ sz)) (va_Qi (fun r' u => r' = r ∧ u = σ) (posW (wC y a) D) (AC a 37 sz)) 0 0 (AC a 37 sz) := by
  refine Met.ofW (cc := cX1_second) (maxL := 2) (ret := (some .int)) (by decide) rfl ?_
  intro p e s m args below meth c s₁ B hml hv
  obtain ⟨rfl, hsz, hP, hK, hF⟩ := hv
  have hx := B.exec
  have hb := B.bytes
  have hr := B.returns
  have hts := atoms_spec (ws := zX1_second) B.pre
  have hown : s.vm.findClass RX1 = some m.cls := findClass_of_methodNamed B.named
  have hlocks := B.notSynchronized
  subst hsz
  have l_f34 := hts _ (List.mem_cons_of_mem _ aF_X1_34)
  have l_f18 := hts _ (List.mem_cons_of_mem _ aF_X1_18)
  have h_X1 : ∀ w ∈ wsX10, w.before _ s = true := fun w hw => hts w (List.mem_cons_of_mem _ (hwX1 w hw))
  have hS : va_S (AC a 37 s.heap.size) s.heap s.heap [] := va_S.rf
  have hl := lv_entry ([.ref (a 1), .int p1]) (n := 2) (Nat.le_of_ble_eq_true rfl)
  rw [lg_entry_eq]
  generalize (lg_sl ([.ref (a 1), .int p1]) ++ List.replicate (2 - (lg_sl ([.ref (a 1), .int p1])).length) Slot.unset).toArray = ls at hl ⊢
  have hl : lv_has ls 2 [(0, .ref (a 1)), (1, .int p1)] := hl
  unfold mX1_second at hm
  refine lv_iload_n hx hb dX1_second_0 rfl (lv_at hl 1 rfl) ?_
  refine lv_if_lt (tgt := 21) hx hb dX1_second_1 (by decide) (fun c1 => ?_) (fun c1 => ?_)
  · have hm := (if_pos c1).symm.trans hm
    refine lv_iconst (v := (-1)) hx hb dX1_second_21 (by decide) ?_
    exact W.iret (v := (-1)) hx hb hr (fun T hT hW => ⟨⟨(-1), σ, rfl, ⟨Option.some.inj hm, rfl⟩, by rw [posW, hT]; exact hP⟩, hS.F hT⟩) hS.2.2 dX1_second_22
  · have hm := (if_neg c1).symm.trans hm
    refine lv_iload_n hx hb dX1_second_4 rfl (lv_at hl 1 rfl) ?_
    refine lv_aload_n hx hb dX1_second_5 rfl (lv_at hl 0 rfl) ?_
    refine gfX1_known hx hb h_X1 hown hK hP l_f34 dX1_second_6 ?_
    refine lv_icmp_ge (tgt := 21) hx hb dX1_second_9 (by decide) (fun c2 => ?_) (fun c2 => ?_)
    · have hm := (if_pos c2).symm.trans hm
      refine lv_iconst (v := (-1)) hx hb dX1_second_21 (by decide) ?_
      exact W.iret (v := (-1)) hx hb hr (fun T hT hW => ⟨⟨(-1), σ, rfl, ⟨Option.some.inj hm, rfl⟩, by rw [posW, hT]; exact hP⟩, hS.F hT⟩) hS.2.2 dX1_second_22
    · have hm := (if_neg c2).symm.trans hm
      refine lv_aload_n hx hb dX1_second_12 rfl (lv_at hl 0 rfl) ?_
      refine gfX1_seconds hx hb h_X1 hown hK hP l_f18 dX1_second_13 ?_
      refine lv_iload_n hx hb dX1_second_16 rfl (lv_at hl 1 rfl) ?_
      obtain ⟨hi, hm⟩ := ok_I hm
      refine ldC_10 hx hb hK hP hi dX1_second_17 ?_
      refine lv_goto (tgt := 22) hx hb dX1_second_18 (by decide) ?_
      exact W.iret (v := σ.1 14 p1.toNatClampNeg) hx hb hr (fun T hT hW => ⟨⟨σ.1 14 p1.toNatClampNeg, σ, rfl, ⟨Option.some.inj hm, rfl⟩, by rw [posW, hT]; exact hP⟩, hS.F hT⟩) hS.2.2 dX1_second_22
theorem eX1_letters : yX1_letters.cls = RX1 ∧ yX1_letters.cls ≠ "java/lang/invoke/MethodHandle" ∧ yX1_letters.cls ≠ "java/lang/invoke/VarHandle" ∧ (parseMethodDescriptor yX1_letters.desc).map (fun d => d.parameters.length) = some 1 := by decide +kernel
def mX1_letters (σ : St) (p1 : Int32) : Option Int32 :=
if p1 < 0 then (
some 0)
else (
if (σ.1 0 0) ≤ p1 then (
some 0)
else (
chkI p1 240 (
some (σ.1 15 p1.toNatClampNeg))))
set_option maxHeartbeats 4000000 in
set_option maxRecDepth 100000 in
theorem kX1_letters (l : Launch) (D : va_G) (y : Nat → ClassId) (a t : Nat → Nat) (hI : AI a 37) (sz : Nat) (σ : St) (p1 : Int32) (r : Int32) (hm : mX1_letters σ p1 = some r) : Met l yX1_letters zX1_letters { frames := 0, cells := 0, slots := 0, locals := 0 } (va_Pc [.ref (a 1), .int p1] (preW (wC y a) a 37 D y t σ sz)) (va_Qi (fun r' u => r' = r ∧ u = σ) (posW (wC y a) D) (AC a 37 sz)) 0 0 (AC a 37 sz) := by
  refine Met.ofW (cc := cX1_letters) (maxL := 2) (ret := (some .int)) (by decide) rfl ?_
  intro p e s m args below meth c s₁ B hml hv
  obtain ⟨rfl, hsz, hP, hK, hF⟩ := hv
  have hx := B.exec
  have hb := B.bytes
  have hr := B.returns
  have hts := atoms_spec (ws := zX1_letters) B.pre
  have hown : s.vm.findClass RX1 = some m.cls := findClass_of_methodNamed B.named
  have hlocks := B.notSynchronized
  subst hsz
  have l_f34 := hts _ (List.mem_cons_of_mem _ aF_X1_34)
  have l_f21 := hts _ (List.mem_cons_of_mem _ aF_X1_21)
  have h_X1 : ∀ w ∈ wsX10, w.before _ s = true := fun w hw => hts w (List.mem_cons_of_mem _ (hwX1 w hw))
  have hS : va_S (AC a 37 s.heap.size) s.heap s.heap [] := va_S.rf
  have hl := lv_entry ([.ref (a 1), .int p1]) (n := 2) (Nat.le_of_ble_eq_true rfl)
  rw [lg_entry_eq]
  generalize (lg_sl ([.ref (a 1), .int p1]) ++ List.replicate (2 - (lg_sl ([.ref (a 1), .int p1])).length) Slot.unset).toArray = ls at hl ⊢
  have hl : lv_has ls 2 [(0, .ref (a 1)), (1, .int p1)] := hl
  unfold mX1_letters at hm
  refine lv_iload_n hx hb dX1_letters_0 rfl (lv_at hl 1 rfl) ?_
  refine lv_if_lt (tgt := 21) hx hb dX1_letters_1 (by decide) (fun c1 => ?_) (fun c1 => ?_)
  · have hm := (if_pos c1).symm.trans hm
    refine lv_iconst (v := 0) hx hb dX1_letters_21 (by decide) ?_
    exact W.iret (v := 0) hx hb hr (fun T hT hW => ⟨⟨0, σ, rfl, ⟨Option.some.inj hm, rfl⟩, by rw [posW, hT]; exact hP⟩, hS.F hT⟩) hS.2.2 dX1_letters_22
  · have hm := (if_neg c1).symm.trans hm
    refine lv_iload_n hx hb dX1_letters_4 rfl (lv_at hl 1 rfl) ?_
    refine lv_aload_n hx hb dX1_letters_5 rfl (lv_at hl 0 rfl) ?_
    refine gfX1_known hx hb h_X1 hown hK hP l_f34 dX1_letters_6 ?_
    refine lv_icmp_ge (tgt := 21) hx hb dX1_letters_9 (by decide) (fun c2 => ?_) (fun c2 => ?_)
    · have hm := (if_pos c2).symm.trans hm
      refine lv_iconst (v := 0) hx hb dX1_letters_21 (by decide) ?_
      exact W.iret (v := 0) hx hb hr (fun T hT hW => ⟨⟨0, σ, rfl, ⟨Option.some.inj hm, rfl⟩, by rw [posW, hT]; exact hP⟩, hS.F hT⟩) hS.2.2 dX1_letters_22
    · have hm := (if_neg c2).symm.trans hm
      refine lv_aload_n hx hb dX1_letters_12 rfl (lv_at hl 0 rfl) ?_
      refine gfX1_letterSets hx hb h_X1 hown hK hP l_f21 dX1_letters_13 ?_
      refine lv_iload_n hx hb dX1_letters_16 rfl (lv_at hl 1 rfl) ?_
      obtain ⟨hi, hm⟩ := ok_I hm
      refine ldC_11 hx hb hK hP hi dX1_letters_17 ?_
      refine lv_goto (tgt := 22) hx hb dX1_letters_18 (by decide) ?_
      exact W.iret (v := σ.1 15 p1.toNatClampNeg) hx hb hr (fun T hT hW => ⟨⟨σ.1 15 p1.toNatClampNeg, σ, rfl, ⟨Option.some.inj hm, rfl⟩, by rw [posW, hT]; exact hP⟩, hS.F hT⟩) hS.2.2 dX1_letters_22
theorem eX1_size : yX1_size.cls = RX1 ∧ yX1_size.cls ≠ "java/lang/invoke/MethodHandle" ∧ yX1_size.cls ≠ "java/lang/invoke/VarHandle" ∧ (parseMethodDescriptor yX1_size.desc).map (fun d => d.parameters.length) = some 1 := by decide +kernel
def mX1_size (σ : St) (p1 : Int32) : Option Int32 :=
if p1 < 0 then (
some 0)
else (
if (σ.1 0 0) ≤ p1 then (
some 0)
else (
chkI p1 240 (
some (σ.1 16 p1.toNatClampNeg))))
set_option maxHeartbeats 4000000 in
set_option maxRecDepth 100000 in
theorem kX1_size (l : Launch) (D : va_G) (y : Nat → ClassId) (a t : Nat → Nat) (hI : AI a 37) (sz : Nat) (σ : St) (p1 : Int32) (r : Int32) (hm : mX1_size σ p1 = some r) : Met l yX1_size zX1_size { frames := 0, cells := 0, slots := 0, locals := 0 } (va_Pc [.ref (a 1), .int p1] (preW (wC y a) a 37 D y t σ sz)) (va_Qi (fun r' u => r' = r ∧ u = σ) (posW (wC y a) D) (AC a 37 sz)) 0 0 (AC a 37 sz) := by
  refine Met.ofW (cc := cX1_size) (maxL := 2) (ret := (some .int)) (by decide) rfl ?_
  intro p e s m args below meth c s₁ B hml hv
  obtain ⟨rfl, hsz, hP, hK, hF⟩ := hv
  have hx := B.exec
  have hb := B.bytes
  have hr := B.returns
  have hts := atoms_spec (ws := zX1_size) B.pre
  have hown : s.vm.findClass RX1 = some m.cls := findClass_of_methodNamed B.named
  have hlocks := B.notSynchronized
  subst hsz
  have l_f34 := hts _ (List.mem_cons_of_mem _ aF_X1_34)
  have l_f24 := hts _ (List.mem_cons_of_mem _ aF_X1_24)
  have h_X1 : ∀ w ∈ wsX10, w.before _ s = true := fun w hw => hts w (List.mem_cons_of_mem _ (hwX1 w hw))
  have hS : va_S (AC a 37 s.heap.size) s.heap s.heap [] := va_S.rf
  have hl := lv_entry ([.ref (a 1), .int p1]) (n := 2) (Nat.le_of_ble_eq_true rfl)
  rw [lg_entry_eq]
  generalize (lg_sl ([.ref (a 1), .int p1]) ++ List.replicate (2 - (lg_sl ([.ref (a 1), .int p1])).length) Slot.unset).toArray = ls at hl ⊢
  have hl : lv_has ls 2 [(0, .ref (a 1)), (1, .int p1)] := hl
  unfold mX1_size at hm
  refine lv_iload_n hx hb dX1_size_0 rfl (lv_at hl 1 rfl) ?_
  refine lv_if_lt (tgt := 21) hx hb dX1_size_1 (by decide) (fun c1 => ?_) (fun c1 => ?_)
  · have hm := (if_pos c1).symm.trans hm
    refine lv_iconst (v := 0) hx hb dX1_size_21 (by decide) ?_
    exact W.iret (v := 0) hx hb hr (fun T hT hW => ⟨⟨0, σ, rfl, ⟨Option.some.inj hm, rfl⟩, by rw [posW, hT]; exact hP⟩, hS.F hT⟩) hS.2.2 dX1_size_22
  · have hm := (if_neg c1).symm.trans hm
    refine lv_iload_n hx hb dX1_size_4 rfl (lv_at hl 1 rfl) ?_
    refine lv_aload_n hx hb dX1_size_5 rfl (lv_at hl 0 rfl) ?_
    refine gfX1_known hx hb h_X1 hown hK hP l_f34 dX1_size_6 ?_
    refine lv_icmp_ge (tgt := 21) hx hb dX1_size_9 (by decide) (fun c2 => ?_) (fun c2 => ?_)
    · have hm := (if_pos c2).symm.trans hm
      refine lv_iconst (v := 0) hx hb dX1_size_21 (by decide) ?_
      exact W.iret (v := 0) hx hb hr (fun T hT hW => ⟨⟨0, σ, rfl, ⟨Option.some.inj hm, rfl⟩, by rw [posW, hT]; exact hP⟩, hS.F hT⟩) hS.2.2 dX1_size_22
    · have hm := (if_neg c2).symm.trans hm
      refine lv_aload_n hx hb dX1_size_12 rfl (lv_at hl 0 rfl) ?_
      refine gfX1_sizes hx hb h_X1 hown hK hP l_f24 dX1_size_13 ?_
      refine lv_iload_n hx hb dX1_size_16 rfl (lv_at hl 1 rfl) ?_
      obtain ⟨hi, hm⟩ := ok_I hm
      refine ldC_12 hx hb hK hP hi dX1_size_17 ?_
      refine lv_goto (tgt := 22) hx hb dX1_size_18 (by decide) ?_
      exact W.iret (v := σ.1 16 p1.toNatClampNeg) hx hb hr (fun T hT hW => ⟨⟨σ.1 16 p1.toNatClampNeg, σ, rfl, ⟨Option.some.inj hm, rfl⟩, by rw [posW, hT]; exact hP⟩, hS.F hT⟩) hS.2.2 dX1_size_22
theorem eX1_width : yX1_width.cls = RX1 ∧ yX1_width.cls ≠ "java/lang/invoke/MethodHandle" ∧ yX1_width.cls ≠ "java/lang/invoke/VarHandle" ∧ (parseMethodDescriptor yX1_width.desc).map (fun d => d.parameters.length) = some 1 := by decide +kernel
def mX1_width (σ : St) (p1 : Int32) : Option Int32 :=
if p1 < 0 then (
some 0)
else (
if (σ.1 0 0) ≤ p1 then (
some 0)
else (
chkI p1 240 (
some (σ.1 17 p1.toNatClampNeg))))
set_option maxHeartbeats 4000000 in
set_option maxRecDepth 100000 in
theorem kX1_width (l : Launch) (D : va_G) (y : Nat → ClassId) (a t : Nat → Nat) (hI : AI a 37) (sz : Nat) (σ : St) (p1 : Int32) (r : Int32) (hm : mX1_width σ p1 = some r) : Met l yX1_width zX1_width { frames := 0, cells := 0, slots := 0, locals := 0 } (va_Pc [.ref (a 1), .int p1] (preW (wC y a) a 37 D y t σ sz)) (va_Qi (fun r' u => r' = r ∧ u = σ) (posW (wC y a) D) (AC a 37 sz)) 0 0 (AC a 37 sz) := by
  refine Met.ofW (cc := cX1_width) (maxL := 2) (ret := (some .int)) (by decide) rfl ?_
  intro p e s m args below meth c s₁ B hml hv
  obtain ⟨rfl, hsz, hP, hK, hF⟩ := hv
  have hx := B.exec
  have hb := B.bytes
  have hr := B.returns
  have hts := atoms_spec (ws := zX1_width) B.pre
  have hown : s.vm.findClass RX1 = some m.cls := findClass_of_methodNamed B.named
  have hlocks := B.notSynchronized
  subst hsz
  have l_f34 := hts _ (List.mem_cons_of_mem _ aF_X1_34)
  have l_f27 := hts _ (List.mem_cons_of_mem _ aF_X1_27)
  have h_X1 : ∀ w ∈ wsX10, w.before _ s = true := fun w hw => hts w (List.mem_cons_of_mem _ (hwX1 w hw))
  have hS : va_S (AC a 37 s.heap.size) s.heap s.heap [] := va_S.rf
  have hl := lv_entry ([.ref (a 1), .int p1]) (n := 2) (Nat.le_of_ble_eq_true rfl)
  rw [lg_entry_eq]
  generalize (lg_sl ([.ref (a 1), .int p1]) ++ List.replicate (2 - (lg_sl ([.ref (a 1), .int p1])).length) Slot.unset).toArray = ls at hl ⊢
  have hl : lv_has ls 2 [(0, .ref (a 1)), (1, .int p1)] := hl
  unfold mX1_width at hm
  refine lv_iload_n hx hb dX1_width_0 rfl (lv_at hl 1 rfl) ?_
  refine lv_if_lt (tgt := 21) hx hb dX1_width_1 (by decide) (fun c1 => ?_) (fun c1 => ?_)
  · have hm := (if_pos c1).symm.trans hm
    refine lv_iconst (v := 0) hx hb dX1_width_21 (by decide) ?_
    exact W.iret (v := 0) hx hb hr (fun T hT hW => ⟨⟨0, σ, rfl, ⟨Option.some.inj hm, rfl⟩, by rw [posW, hT]; exact hP⟩, hS.F hT⟩) hS.2.2 dX1_width_22
  · have hm := (if_neg c1).symm.trans hm
    refine lv_iload_n hx hb dX1_width_4 rfl (lv_at hl 1 rfl) ?_
    refine lv_aload_n hx hb dX1_width_5 rfl (lv_at hl 0 rfl) ?_
    refine gfX1_known hx hb h_X1 hown hK hP l_f34 dX1_width_6 ?_
    refine lv_icmp_ge (tgt := 21) hx hb dX1_width_9 (by decide) (fun c2 => ?_) (fun c2 => ?_)
    · have hm := (if_pos c2).symm.trans hm
      refine lv_iconst (v := 0) hx hb dX1_width_21 (by decide) ?_
      exact W.iret (v := 0) hx hb hr (fun T hT hW => ⟨⟨0, σ, rfl, ⟨Option.some.inj hm, rfl⟩, by rw [posW, hT]; exact hP⟩, hS.F hT⟩) hS.2.2 dX1_width_22
    · have hm := (if_neg c2).symm.trans hm
      refine lv_aload_n hx hb dX1_width_12 rfl (lv_at hl 0 rfl) ?_
      refine gfX1_widths hx hb h_X1 hown hK hP l_f27 dX1_width_13 ?_
      refine lv_iload_n hx hb dX1_width_16 rfl (lv_at hl 1 rfl) ?_
      obtain ⟨hi, hm⟩ := ok_I hm
      refine ldC_13 hx hb hK hP hi dX1_width_17 ?_
      refine lv_goto (tgt := 22) hx hb dX1_width_18 (by decide) ?_
      exact W.iret (v := σ.1 17 p1.toNatClampNeg) hx hb hr (fun T hT hW => ⟨⟨σ.1 17 p1.toNatClampNeg, σ, rfl, ⟨Option.some.inj hm, rfl⟩, by rw [posW, hT]; exact hP⟩, hS.F hT⟩) hS.2.2 dX1_width_22
theorem eX1_truth : yX1_truth.cls = RX1 ∧ yX1_truth.cls ≠ "java/lang/invoke/MethodHandle" ∧ yX1_truth.cls ≠ "java/lang/invoke/VarHandle" ∧ (parseMethodDescriptor yX1_truth.desc).map (fun d => d.parameters.length) = some 2 := by decide +kernel
def mX1_truth (σ : St) (p1 : Int32) (p2 : Int32) : Option Int64 :=
if p1 < 0 then (
some 0)
else (
if (σ.1 0 0) ≤ p1 then (
some 0)
else (
if p2 < 0 then (
some 0)
else (
if 4 ≤ p2 then (
some 0)
else (
chkI ((p1 * 4) + p2) 960 (
some (σ.2 ((p1 * 4) + p2).toNatClampNeg))))))
set_option maxHeartbeats 4000000 in
set_option maxRecDepth 100000 in
theorem kX1_truth (l : Launch) (D : va_G) (y : Nat → ClassId) (a t : Nat → Nat) (hI : AI a 37) (sz : Nat) (σ : St) (p1 : Int32) (p2 : Int32) (r : Int64) (hm : mX1_truth σ p1 p2 = some r) : Met l yX1_truth zX1_truth { frames := 0, cells := 0, slots := 0, locals := 0 } (va_Pc [.ref (a 1), .int p1, .int p2] (preW (wC y a) a 37 D y t σ sz)) (va_Ql (fun r' u => r' = r ∧ u = σ) (posW (wC y a) D) (AC a 37 sz)) 0 0 (AC a 37 sz) := by
  refine Met.ofW (cc := cX1_truth) (maxL := 3) (ret := (some .long)) (by decide) rfl ?_
  intro p e s m args below meth c s₁ B hml hv
  obtain ⟨rfl, hsz, hP, hK, hF⟩ := hv
  have hx := B.exec
  have hb := B.bytes
  have hr := B.returns
  have hts := atoms_spec (ws := zX1_truth) B.pre
  have hown : s.vm.findClass RX1 = some m.cls := findClass_of_methodNamed B.named
  have hlocks := B.notSynchronized
  subst hsz
  have l_f34 := hts _ (List.mem_cons_of_mem _ aF_X1_34)
  have l_f30 := hts _ (List.mem_cons_of_mem _ aF_X1_30)
  have h_X1 : ∀ w ∈ wsX10, w.before _ s = true := fun w hw => hts w (List.mem_cons_of_mem _ (hwX1 w hw))
  have hS : va_S (AC a 37 s.heap.size) s.heap s.heap [] := va_S.rf
  have hl := lv_entry ([.ref (a 1), .int p1, .int p2]) (n := 3) (Nat.le_of_ble_eq_true rfl)
  rw [lg_entry_eq]
  generalize (lg_sl ([.ref (a 1), .int p1, .int p2]) ++ List.replicate (3 - (lg_sl ([.ref (a 1), .int p1, .int p2])).length) Slot.unset).toArray = ls at hl ⊢
  have hl : lv_has ls 3 [(0, .ref (a 1)), (1, .int p1), (2, .int p2)] := hl
  unfold mX1_truth at hm
  refine lv_iload_n hx hb dX1_truth_0 rfl (lv_at hl 1 rfl) ?_
  refine lv_if_lt (tgt := 34) hx hb dX1_truth_1 (by decide) (fun c1 => ?_) (fun c1 => ?_)
  · have hm := (if_pos c1).symm.trans hm
    refine lv_lconst (v := 0) hx hb dX1_truth_34 (by decide) ?_
    exact W.lret (v := 0) hx hb hr (fun T hT hW => ⟨⟨0, σ, rfl, ⟨Option.some.inj hm, rfl⟩, by rw [posW, hT]; exact hP⟩, hS.F hT⟩) hS.2.2 dX1_truth_35
  · have hm := (if_neg c1).symm.trans hm
    refine lv_iload_n hx hb dX1_truth_4 rfl (lv_at hl 1 rfl) ?_
    refine lv_aload_n hx hb dX1_truth_5 rfl (lv_at hl 0 rfl) ?_
    refine gfX1_known hx hb h_X1 hown hK hP l_f34 dX1_truth_6 ?_
    refine lv_icmp_ge (tgt := 34) hx hb dX1_truth_9 (by decide) (fun c2 => ?_) (fun c2 => ?_)
    · have hm := (if_pos c2).symm.trans hm
      refine lv_lconst (v := 0) hx hb dX1_truth_34 (by decide) ?_
      exact W.lret (v := 0) hx hb hr (fun T hT hW => ⟨⟨0, σ, rfl, ⟨Option.some.inj hm, rfl⟩, by rw [posW, hT]; exact hP⟩, hS.F hT⟩) hS.2.2 dX1_truth_35
    · have hm := (if_neg c2).symm.trans hm
      refine lv_iload_n hx hb dX1_truth_12 rfl (lv_at hl 2 rfl) ?_
      refine lv_if_lt (tgt := 34) hx hb dX1_truth_13 (by decide) (fun c3 => ?_) (fun c3 => ?_)
      · have hm := (if_pos c3).symm.trans hm
        refine lv_lconst (v := 0) hx hb dX1_truth_34 (by decide) ?_
        exact W.lret (v := 0) hx hb hr (fun T hT hW => ⟨⟨0, σ, rfl, ⟨Option.some.inj hm, rfl⟩, by rw [posW, hT]; exact hP⟩, hS.F hT⟩) hS.2.2 dX1_truth_35
      · have hm := (if_neg c3).symm.trans hm
        refine lv_iload_n hx hb dX1_truth_16 rfl (lv_at hl 2 rfl) ?_
        refine lv_iconst (v := 4) hx hb dX1_truth_17 (by decide) ?_
        refine lv_icmp_ge (tgt := 34) hx hb dX1_truth_18 (by decide) (fun c4 => ?_) (fun c4 => ?_)
        · have hm := (if_pos c4).symm.trans hm
          refine lv_lconst (v := 0) hx hb dX1_truth_34 (by decide) ?_
          exact W.lret (v := 0) hx hb hr (fun T hT hW => ⟨⟨0, σ, rfl, ⟨Option.some.inj hm, rfl⟩, by rw [posW, hT]; exact hP⟩, hS.F hT⟩) hS.2.2 dX1_truth_35
        · have hm := (if_neg c4).symm.trans hm
          refine lv_aload_n hx hb dX1_truth_21 rfl (lv_at hl 0 rfl) ?_
          refine gfX1_truths hx hb h_X1 hown hK hP l_f30 dX1_truth_22 ?_
          refine lv_iload_n hx hb dX1_truth_25 rfl (lv_at hl 1 rfl) ?_
          refine lv_iconst (v := 4) hx hb dX1_truth_26 (by decide) ?_
          refine lv_imul hx hb dX1_truth_27 ?_
          refine lv_iload_n hx hb dX1_truth_28 rfl (lv_at hl 2 rfl) ?_
          refine lv_iadd hx hb dX1_truth_29 ?_
          obtain ⟨hi, hm⟩ := ok_I hm
          refine ldC_14 hx hb hK hP hi dX1_truth_30 ?_
          refine lv_goto (tgt := 35) hx hb dX1_truth_31 (by decide) ?_
          exact W.lret (v := σ.2 ((p1 * 4) + p2).toNatClampNeg) hx hb hr (fun T hT hW => ⟨⟨σ.2 ((p1 * 4) + p2).toNatClampNeg, σ, rfl, ⟨Option.some.inj hm, rfl⟩, by rw [posW, hT]; exact hP⟩, hS.F hT⟩) hS.2.2 dX1_truth_35
theorem eJ13_bitCount_95d88 : yJ13_bitCount_95d88.cls ≠ "java/lang/invoke/MethodHandle" ∧ yJ13_bitCount_95d88.cls ≠ "java/lang/invoke/VarHandle" ∧ (parseMethodDescriptor yJ13_bitCount_95d88.desc).map (fun d => d.parameters.length) = some 1 := by decide +kernel
def mJ13_bitCount_95d88 (σ : St) (p1 : Int64) : Option Int32 :=
bnd (p1 - (((p1.toUInt64 >>> ((1 : Int32).toInt64.toUInt64 &&& Int64.toUInt64 63)).toInt64) &&& 6148914691236517205)) fun x1 =>
bnd ((x1 &&& 3689348814741910323) + (((x1.toUInt64 >>> ((2 : Int32).toInt64.toUInt64 &&& Int64.toUInt64 63)).toInt64) &&& 3689348814741910323)) fun x2 =>
bnd ((x2 + ((x2.toUInt64 >>> ((4 : Int32).toInt64.toUInt64 &&& Int64.toUInt64 63)).toInt64)) &&& 1085102592571150095) fun x3 =>
bnd (x3 + ((x3.toUInt64 >>> ((8 : Int32).toInt64.toUInt64 &&& Int64.toUInt64 63)).toInt64)) fun x4 =>
bnd (x4 + ((x4.toUInt64 >>> ((16 : Int32).toInt64.toUInt64 &&& Int64.toUInt64 63)).toInt64)) fun x5 =>
bnd (x5 + ((x5.toUInt64 >>> ((32 : Int32).toInt64.toUInt64 &&& Int64.toUInt64 63)).toInt64)) fun x6 =>
some (x6.toInt32 &&& 127)
set_option maxHeartbeats 4000000 in
set_option maxRecDepth 100000 in
theorem kJ13_bitCount_95d88 (l : Launch) (D : va_G) (y : Nat → ClassId) (a t : Nat → Nat) (hI : AI a 37) (sz : Nat) (σ : St) (p1 : Int64) (r : Int32) (hm : mJ13_bitCount_95d88 σ p1 = some r) : Met l yJ13_bitCount_95d88 zJ13_bitCount_95d88 { frames := 0, cells := 0, slots := 0, locals := 0 } (va_Pc [.long p1] (preW (wC y a) a 37 D y t σ sz)) (va_Qi (fun r' u => r' = r ∧ u = σ) (posW (wC y a) D) (AC a 37 sz)) 0 0 (AC a 37 sz) := by
  refine Met.ofW (cc := cJ13_bitCount_95d88) (maxL := 2) (ret := (some .int)) (by decide) rfl ?_
  intro p e s m args below meth c s₁ B hml hv
  obtain ⟨rfl, hsz, hP, hK, hF⟩ := hv
  have hx := B.exec
  have hb := B.bytes
  have hr := B.returns
  have hts := atoms_spec (ws := zJ13_bitCount_95d88) B.pre
  have hown : s.vm.findClass RJ13 = some m.cls := findClass_of_methodNamed B.named
  have hlocks := B.notSynchronized
  subst hsz
  have l_c314 := hts _ (List.mem_cons_of_mem _ aK_J13_314)
  have l_c316 := hts _ (List.mem_cons_of_mem _ aK_J13_316)
  have l_c318 := hts _ (List.mem_cons_of_mem _ aK_J13_318)
  have hS : va_S (AC a 37 s.heap.size) s.heap s.heap [] := va_S.rf
  have hl := lv_entry ([.long p1]) (n := 2) (Nat.le_of_ble_eq_true rfl)
  rw [lg_entry_eq]
  generalize (lg_sl ([.long p1]) ++ List.replicate (2 - (lg_sl ([.long p1])).length) Slot.unset).toArray = ls at hl ⊢
  have hl : lv_has ls 2 [(0, .long p1)] := hl
  unfold mJ13_bitCount_95d88 at hm
  refine lv_lload_n hx hb dJ13_bitCount_95d88_0 rfl (lv_at hl 0 rfl) ?_
  refine lv_lload_n hx hb dJ13_bitCount_95d88_1 rfl (lv_at hl 0 rfl) ?_
  refine lv_iconst (v := 1) hx hb dJ13_bitCount_95d88_2 (by decide) ?_
  refine lv_lushr (v := (p1.toUInt64 >>> ((1 : Int32).toInt64.toUInt64 &&& Int64.toUInt64 63)).toInt64) hx hb dJ13_bitCount_95d88_3 rfl ?_
  refine lv_ldc2 (v := 6148914691236517205) hx hb hown l_c314 dJ13_bitCount_95d88_4 ?_
  refine lv_land hx hb dJ13_bitCount_95d88_7 ?_
  refine lv_lsub hx hb dJ13_bitCount_95d88_8 ?_
  refine lv_topl (fun x1 ex1 => ?_)
  have hm := bnd_x ex1 hm
  refine lv_lstore_n (lv' := [(0, .long x1)]) hx hb dJ13_bitCount_95d88_9 rfl hl (by decide) rfl (fun ls hl => ?_)
  refine lv_lload_n hx hb dJ13_bitCount_95d88_10 rfl (lv_at hl 0 rfl) ?_
  refine lv_ldc2 (v := 3689348814741910323) hx hb hown l_c316 dJ13_bitCount_95d88_11 ?_
  refine lv_land hx hb dJ13_bitCount_95d88_14 ?_
  refine lv_lload_n hx hb dJ13_bitCount_95d88_15 rfl (lv_at hl 0 rfl) ?_
  refine lv_iconst (v := 2) hx hb dJ13_bitCount_95d88_16 (by decide) ?_
  refine lv_lushr (v := (x1.toUInt64 >>> ((2 : Int32).toInt64.toUInt64 &&& Int64.toUInt64 63)).toInt64) hx hb dJ13_bitCount_95d88_17 rfl ?_
  refine lv_ldc2 (v := 3689348814741910323) hx hb hown l_c316 dJ13_bitCount_95d88_18 ?_
  refine lv_land hx hb dJ13_bitCount_95d88_21 ?_
  refine lv_ladd hx hb dJ13_bitCount_95d88_22 ?_
  refine lv_topl (fun x2 ex2 => ?_)
  have hm := bnd_x ex2 hm
  refine lv_lstore_n (lv' := [(0, .long x2)]) hx hb dJ13_bitCount_95d88_23 rfl hl (by decide) rfl (fun ls hl => ?_)
  refine lv_lload_n hx hb dJ13_bitCount_95d88_24 rfl (lv_at hl 0 rfl) ?_
  refine lv_lload_n hx hb dJ13_bitCount_95d88_25 rfl (lv_at hl 0 rfl) ?_
  refine lv_iconst (v := 4) hx hb dJ13_bitCount_95d88_26 (by decide) ?_
  refine lv_lushr (v := (x2.toUInt64 >>> ((4 : Int32).toInt64.toUInt64 &&& Int64.toUInt64 63)).toInt64) hx hb dJ13_bitCount_95d88_27 rfl ?_
  refine lv_ladd hx hb dJ13_bitCount_95d88_28 ?_
  refine lv_ldc2 (v := 1085102592571150095) hx hb hown l_c318 dJ13_bitCount_95d88_29 ?_
  refine lv_land hx hb dJ13_bitCount_95d88_32 ?_
  refine lv_topl (fun x3 ex3 => ?_)
  have hm := bnd_x ex3 hm
  refine lv_lstore_n (lv' := [(0, .long x3)]) hx hb dJ13_bitCount_95d88_33 rfl hl (by decide) rfl (fun ls hl => ?_)
  refine lv_lload_n hx hb dJ13_bitCount_95d88_34 rfl (lv_at hl 0 rfl) ?_
  refine lv_lload_n hx hb dJ13_bitCount_95d88_35 rfl (lv_at hl 0 rfl) ?_
  refine lv_bipush (v := 8) hx hb dJ13_bitCount_95d88_36 (by decide) ?_
  refine lv_lushr (v := (x3.toUInt64 >>> ((8 : Int32).toInt64.toUInt64 &&& Int64.toUInt64 63)).toInt64) hx hb dJ13_bitCount_95d88_38 rfl ?_
  refine lv_ladd hx hb dJ13_bitCount_95d88_39 ?_
  refine lv_topl (fun x4 ex4 => ?_)
  have hm := bnd_x ex4 hm
  refine lv_lstore_n (lv' := [(0, .long x4)]) hx hb dJ13_bitCount_95d88_40 rfl hl (by decide) rfl (fun ls hl => ?_)
  refine lv_lload_n hx hb dJ13_bitCount_95d88_41 rfl (lv_at hl 0 rfl) ?_
  refine lv_lload_n hx hb dJ13_bitCount_95d88_42 rfl (lv_at hl 0 rfl) ?_
  refine lv_bipush (v := 16) hx hb dJ13_bitCount_95d88_43 (by decide) ?_
  refine lv_lushr (v := (x4.toUInt64 >>> ((16 : Int32).toInt64.toUInt64 &&& Int64.toUInt64 63)).toInt64) hx hb dJ13_bitCount_95d88_45 rfl ?_
  refine lv_ladd hx hb dJ13_bitCount_95d88_46 ?_
  refine lv_topl (fun x5 ex5 => ?_)
  have hm := bnd_x ex5 hm
  refine lv_lstore_n (lv' := [(0, .long x5)]) hx hb dJ13_bitCount_95d88_47 rfl hl (by decide) rfl (fun ls hl => ?_)
  refine lv_lload_n hx hb dJ13_bitCount_95d88_48 rfl (lv_at hl 0 rfl) ?_
  refine lv_lload_n hx hb dJ13_bitCount_95d88_49 rfl (lv_at hl 0 rfl) ?_
  refine lv_bipush (v := 32) hx hb dJ13_bitCount_95d88_50 (by decide) ?_
  refine lv_lushr (v := (x5.toUInt64 >>> ((32 : Int32).toInt64.toUInt64 &&& Int64.toUInt64 63)).toInt64) hx hb dJ13_bitCount_95d88_52 rfl ?_
  refine lv_ladd hx hb dJ13_bitCount_95d88_53 ?_
  refine lv_topl (fun x6 ex6 => ?_)
  have hm := bnd_x ex6 hm
  refine lv_lstore_n (lv' := [(0, .long x6)]) hx hb dJ13_bitCount_95d88_54 rfl hl (by decide) rfl (fun ls hl => ?_)
  refine lv_lload_n hx hb dJ13_bitCount_95d88_55 rfl (lv_at hl 0 rfl) ?_
  refine lv_l2i (v := x6.toInt32) hx hb dJ13_bitCount_95d88_56 rfl ?_
  refine lv_bipush (v := 127) hx hb dJ13_bitCount_95d88_57 (by decide) ?_
  refine lv_iand hx hb dJ13_bitCount_95d88_59 ?_
  exact W.iret (v := x6.toInt32 &&& 127) hx hb hr (fun T hT hW => ⟨⟨x6.toInt32 &&& 127, σ, rfl, ⟨Option.some.inj hm, rfl⟩, by rw [posW, hT]; exact hP⟩, hS.F hT⟩) hS.2.2 dJ13_bitCount_95d88_60
theorem eX1_trueSets : yX1_trueSets.cls = RX1 ∧ yX1_trueSets.cls ≠ "java/lang/invoke/MethodHandle" ∧ yX1_trueSets.cls ≠ "java/lang/invoke/VarHandle" ∧ (parseMethodDescriptor yX1_trueSets.desc).map (fun d => d.parameters.length) = some 1 := by decide +kernel
def bX1_trueSets_4 (kh4 : St → Int32 → Int32 → Int32 → Option Int32) (σ : St) (v1 : Int32) (v2 : Int32) (v3 : Int32) : Option Int32 :=
if 4 ≤ v3 then (
some v2)
else (
(mX1_truth σ v1 v3).bind fun r5 =>
(mJ13_bitCount_95d88 σ r5).bind fun r7 =>
bnd (v2 + r7) fun x9 =>
bnd (v3 + 1) fun x10 =>
kh4 σ v1 x9 x10)
abbrev mX1_trueSets_4 (n : Nat) : St → Int32 → Int32 → Int32 → Option Int32 := fx (fun _ _ _ _ => none) (bX1_trueSets_4) n
def mX1_trueSets (σ : St) (p1 : Int32) : Option Int32 :=
mX1_trueSets_4 NF σ p1 0 0
set_option maxHeartbeats 4000000 in
set_option maxRecDepth 100000 in
theorem kX1_trueSets (l : Launch) (D : va_G) (y : Nat → ClassId) (a t : Nat → Nat) (hI : AI a 37) (sz : Nat) (σ : St) (p1 : Int32) (r : Int32) (hm : mX1_trueSets σ p1 = some r) : Met l yX1_trueSets zX1_trueSets { frames := 1, cells := 0, slots := 0, locals := 22 } (va_Pc [.ref (a 1), .int p1] (preW (wC y a) a 37 D y t σ sz)) (va_Qi (fun r' u => r' = r ∧ u = σ) (posW (wC y a) D) (AC a 37 sz)) 0 0 (AC a 37 sz) := by
  refine Met.ofW (cc := cX1_trueSets) (maxL := 4) (ret := (some .int)) (by decide) rfl ?_
  intro p e s m args below meth c s₁ B hml hv
  obtain ⟨rfl, hsz, hP, hK, hF⟩ := hv
  have hx := B.exec
  have hb := B.bytes
  have hr := B.returns
  have hts := atoms_spec (ws := zX1_trueSets) B.pre
  have hown : s.vm.findClass RX1 = some m.cls := findClass_of_methodNamed B.named
  have hlocks := B.notSynchronized
  subst hsz
  have hS : va_S (AC a 37 s.heap.size) s.heap s.heap [] := va_S.rf
  have hl := lv_entry ([.ref (a 1), .int p1]) (n := 4) (Nat.le_of_ble_eq_true rfl)
  rw [lg_entry_eq]
  generalize (lg_sl ([.ref (a 1), .int p1]) ++ List.replicate (4 - (lg_sl ([.ref (a 1), .int p1])).length) Slot.unset).toArray = ls at hl ⊢
  have hl : lv_has ls 4 [(0, .ref (a 1)), (1, .int p1)] := hl
  have L_4 : ∀ (n : Nat) (v1 : Int32) (v2 : Int32) (v3 : Int32) (H : Heap) (locs : List Loc) (ls : Array Slot), va_P D vwCl (wC y a σ) H → va_S (AC a 37 s.heap.size) s.heap H locs → lv_has ls 4 [(0, .ref (a 1)), (1, .int v1), (2, .int v2), (3, .int v3)] → mX1_trueSets_4 n σ v1 v2 v3 = some r → W p l e (headSpec zX1_trueSets ({ frames := 1, cells := 0, slots := 0, locals := 22 })).room s m ([.ref (a 1), .int p1] : List Value).toArray below meth c H locs 0 0 (MQ below (va_Qi (fun r' u => r' = r ∧ u = σ) (posW (wC y a) D) (AC a 37 s.heap.size)) ([.ref (a 1), .int p1] : List Value).toArray s 0 0 (AC a 37 s.heap.size)) (F0 m 4 ls []) := by
    intro n
    induction n with
    | zero =>
      intro v1 v2 v3 H locs ls hP hS hl hm
      exact absurd (show (none : Option Int32) = some r from hm) (by intro h; cases h)
    | succ n ih4 =>
      obtain ⟨kh4, ekh4⟩ : ∃ z, z = mX1_trueSets_4 n := ⟨_, rfl⟩
      have ih4 : ∀ (v1 : Int32) (v2 : Int32) (v3 : Int32) (H : Heap) (locs : List Loc) (ls : Array Slot), va_P D vwCl (wC y a σ) H → va_S (AC a 37 s.heap.size) s.heap H locs → lv_has ls 4 [(0, .ref (a 1)), (1, .int v1), (2, .int v2), (3, .int v3)] → kh4 σ v1 v2 v3 = some r → W p l e (headSpec zX1_trueSets ({ frames := 1, cells := 0, slots := 0, locals := 22 })).room s m ([.ref (a 1), .int p1] : List Value).toArray below meth c H locs 0 0 (MQ below (va_Qi (fun r' u => r' = r ∧ u = σ) (posW (wC y a) D) (AC a 37 s.heap.size)) ([.ref (a 1), .int p1] : List Value).toArray s 0 0 (AC a 37 s.heap.size)) (F0 m 4 ls []) := by rw [ekh4]; exact ih4
      intro v1 v2 v3 H locs ls hP hS hl hm
      have hm : bX1_trueSets_4 (mX1_trueSets_4 n) σ v1 v2 v3 = some r := hm
      rw [← ekh4] at hm
      unfold bX1_trueSets_4 at hm
      refine lv_iload_n hx hb dX1_trueSets_4 rfl (lv_at hl 3 rfl) ?_
      refine lv_iconst (v := 4) hx hb dX1_trueSets_5 (by decide) ?_
      refine lv_icmp_ge (tgt := 27) hx hb dX1_trueSets_6 (by decide) (fun c4 => ?_) (fun c4 => ?_)
      · have hm := (if_pos c4).symm.trans hm
        refine lv_iload_n hx hb dX1_trueSets_27 rfl (lv_at hl 2 rfl) ?_
        exact W.iret (v := v2) hx hb hr (fun T hT hW => ⟨⟨v2, σ, rfl, ⟨Option.some.inj hm, rfl⟩, by rw [posW, hT]; exact hP⟩, hS.F hT⟩) hS.2.2 dX1_trueSets_28
      · have hm := (if_neg c4).symm.trans hm
        refine lv_iload_n hx hb dX1_trueSets_9 rfl (lv_at hl 2 rfl) ?_
        refine lv_aload_n hx hb dX1_trueSets_10 rfl (lv_at hl 0 rfl) ?_
        refine lv_iload_n hx hb dX1_trueSets_11 rfl (lv_at hl 1 rfl) ?_
        refine lv_iload_n hx hb dX1_trueSets_12 rfl (lv_at hl 3 rfl) ?_
        obtain ⟨r5, h6, hm⟩ := ok_bind hm
        refine calV_l (As := [.int v1, .int v3]) (rest := [.int v2]) ⟨hx, hb, hml, hown, hts⟩ (kX1_truth l D y a t hI _ σ v1 v3 r5 h6) (cwV 2 hts (gAV aM_X1_38 aI_X1_truth aS_X1_truth aN_X1 aC_X1_truth) rfl rfl rfl eX1_truth ⟨Nat.le_of_ble_eq_true rfl, Nat.le_of_ble_eq_true rfl⟩) (preV_W (ci := 1) (q := (RX1, TX1, 8)) hK hP hF hS rfl (wC_1 y a σ)) rfl hl.1 rfl (Nat.le_of_ble_eq_true rfl) dX1_trueSets_13 ⟨Nat.zero_le _, Nat.zero_le _⟩ hS (AC_le hS.1) (fun H locs hP hS hk1 => ?_)
        obtain ⟨r7, h8, hm⟩ := ok_bind hm
        refine calS_i (As := [.long r5]) (rest := [.int v2]) ⟨hx, hb, hml, hown, hts⟩ (kJ13_bitCount_95d88 l D y a t hI _ σ r5 r7 h8) (va_cwS 1 hts (gAS aM_X1_42 aT_J13_bitCount_95d88 aN_J13 aC_J13_bitCount_95d88) rfl rfl rfl eJ13_bitCount_95d88 ⟨Nat.le_of_ble_eq_true rfl, Nat.le_of_ble_eq_true rfl⟩) (preS_W hK hP hF hS) rfl hl.1 rfl (Nat.le_of_ble_eq_true rfl) dX1_trueSets_16 ⟨Nat.zero_le _, Nat.zero_le _⟩ hS (AC_le hS.1) (fun H locs hP hS hk1 => ?_)
        refine lv_iadd hx hb dX1_trueSets_19 ?_
        refine lv_topi (fun x9 ex9 => ?_)
        have hm := bnd_x ex9 hm
        refine lv_istore_n (lv' := [(2, .int x9), (0, .ref (a 1)), (1, .int v1), (3, .int v3)]) hx hb dX1_trueSets_20 rfl hl (by decide) rfl (fun ls hl => ?_)
        obtain ⟨x10, ex10⟩ : ∃ z : Int32, z = v3 + 1 := ⟨_, rfl⟩
        have hm := bnd_x ex10 hm
        refine lv_iinc (v := x10) (lv' := [(3, .int x10), (2, .int x9), (0, .ref (a 1)), (1, .int v1)]) hx hb dX1_trueSets_21 hl (k := 3) rfl (by rw [ex10]; rfl) (by decide) rfl (fun ls hl => ?_)
        refine lv_goto (tgt := 4) hx hb dX1_trueSets_24 (by decide) ?_
        exact ih4 v1 x9 x10 _ _ _ hP hS (lv_sub hl [2, 3, 1, 0] rfl) hm
  unfold mX1_trueSets at hm
  refine lv_iconst (v := 0) hx hb dX1_trueSets_0 (by decide) ?_
  refine lv_istore_n (lv' := [(2, .int 0), (0, .ref (a 1)), (1, .int p1)]) hx hb dX1_trueSets_1 rfl hl (by decide) rfl (fun ls hl => ?_)
  refine lv_iconst (v := 0) hx hb dX1_trueSets_2 (by decide) ?_
  refine lv_istore_n (lv' := [(3, .int 0), (2, .int 0), (0, .ref (a 1)), (1, .int p1)]) hx hb dX1_trueSets_3 rfl hl (by decide) rfl (fun ls hl => ?_)
  exact L_4 NF p1 0 0 _ _ _ hP hS (lv_sub hl [2, 3, 1, 0] rfl) hm
theorem eX1_hasParts : yX1_hasParts.cls = RX1 ∧ yX1_hasParts.cls ≠ "java/lang/invoke/MethodHandle" ∧ yX1_hasParts.cls ≠ "java/lang/invoke/VarHandle" ∧ (parseMethodDescriptor yX1_hasParts.desc).map (fun d => d.parameters.length) = some 3 := by decide +kernel
def mX1_hasParts (σ : St) (p1 : Int32) (p2 : Int32) (p3 : Int32) : Option Int32 :=
if p1 = 0 then (
if p2 < 0 then (
some 0)
else (
if 8 ≤ p2 then (
some 0)
else (
some 1)))
else (
if p1 = 1 then (
some 1)
else (
(mX1_isKnown σ p2).bind fun r3 =>
if r3 = 0 then (
some 0)
else (
if p1 = 2 then (
some 1)
else (
(mX1_isKnown σ p3).bind fun r7 =>
if r7 = 0 then (
some 0)
else (
some 1)))))
set_option maxHeartbeats 4000000 in
set_option maxRecDepth 100000 in
theorem kX1_hasParts (l : Launch) (D : va_G) (y : Nat → ClassId) (a t : Nat → Nat) (hI : AI a 37) (sz : Nat) (σ : St) (p1 : Int32) (p2 : Int32) (p3 : Int32) (r : Int32) (hm : mX1_hasParts σ p1 p2 p3 = some r) : Met l yX1_hasParts zX1_hasParts { frames := 1, cells := 0, slots := 0, locals := 21 } (va_Pc [.ref (a 1), .int p1, .int p2, .int p3] (preW (wC y a) a 37 D y t σ sz)) (va_Qi (fun r' u => r' = r ∧ u = σ) (posW (wC y a) D) (AC a 37 sz)) 0 0 (AC a 37 sz) := by
  refine Met.ofW (cc := cX1_hasParts) (maxL := 4) (ret := (some .boolean)) (by decide) rfl ?_
  intro p e s m args below meth c s₁ B hml hv
  obtain ⟨rfl, hsz, hP, hK, hF⟩ := hv
  have hx := B.exec
  have hb := B.bytes
  have hr := B.returns
  have hts := atoms_spec (ws := zX1_hasParts) B.pre
  have hown : s.vm.findClass RX1 = some m.cls := findClass_of_methodNamed B.named
  have hlocks := B.notSynchronized
  subst hsz
  have hS : va_S (AC a 37 s.heap.size) s.heap s.heap [] := va_S.rf
  have hl := lv_entry ([.ref (a 1), .int p1, .int p2, .int p3]) (n := 4) (Nat.le_of_ble_eq_true rfl)
  rw [lg_entry_eq]
  generalize (lg_sl ([.ref (a 1), .int p1, .int p2, .int p3]) ++ List.replicate (4 - (lg_sl ([.ref (a 1), .int p1, .int p2, .int p3])).length) Slot.unset).toArray = ls at hl ⊢
  have hl : lv_has ls 4 [(0, .ref (a 1)), (1, .int p1), (2, .int p2), (3, .int p3)] := hl
  unfold mX1_hasParts at hm
  refine lv_iload_n hx hb dX1_hasParts_0 rfl (lv_at hl 1 rfl) ?_
  refine lv_if_ne (tgt := 20) hx hb dX1_hasParts_1 (by decide) (fun c1 => ?_) (fun c1 => ?_)
  · have hm := (if_neg c1).symm.trans hm
    refine lv_iload_n hx hb dX1_hasParts_20 rfl (lv_at hl 1 rfl) ?_
    refine lv_iconst (v := 1) hx hb dX1_hasParts_21 (by decide) ?_
    refine lv_icmp_ne (tgt := 27) hx hb dX1_hasParts_22 (by decide) (fun c2 => ?_) (fun c2 => ?_)
    · have hm := (if_neg c2).symm.trans hm
      refine lv_aload_n hx hb dX1_hasParts_27 rfl (lv_at hl 0 rfl) ?_
      refine lv_iload_n hx hb dX1_hasParts_28 rfl (lv_at hl 2 rfl) ?_
      obtain ⟨r3, h4, hm⟩ := ok_bind hm
      refine calV_i (As := [.int p2]) (rest := []) ⟨hx, hb, hml, hown, hts⟩ (kX1_isKnown l D y a t hI _ σ p2 r3 h4) (cwV 1 hts (gAV aM_X1_48 aI_X1_isKnown aS_X1_isKnown aN_X1 aC_X1_isKnown) rfl rfl rfl eX1_isKnown ⟨Nat.le_of_ble_eq_true rfl, Nat.le_of_ble_eq_true rfl⟩) (preV_W (ci := 1) (q := (RX1, TX1, 8)) hK hP hF hS rfl (wC_1 y a σ)) rfl hl.1 rfl (Nat.le_of_ble_eq_true rfl) dX1_hasParts_29 ⟨Nat.zero_le _, Nat.zero_le _⟩ hS (AC_le hS.1) (fun H locs hP hS hk1 => ?_)
      refine lv_if_eq (tgt := 52) hx hb dX1_hasParts_32 (by decide) (fun c5 => ?_) (fun c5 => ?_)
      · have hm := (if_pos c5).symm.trans hm
        refine lv_iconst (v := 0) hx hb dX1_hasParts_52 (by decide) ?_
        exact W.zret (v := 0) hx hb hr rfl (fun T hT hW => ⟨⟨0, σ, rfl, ⟨Option.some.inj hm, rfl⟩, by rw [posW, hT]; exact hP⟩, hS.F hT⟩) hS.2.2 dX1_hasParts_53
      · have hm := (if_neg c5).symm.trans hm
        refine lv_iload_n hx hb dX1_hasParts_35 rfl (lv_at hl 1 rfl) ?_
        refine lv_iconst (v := 2) hx hb dX1_hasParts_36 (by decide) ?_
        refine lv_icmp_eq (tgt := 48) hx hb dX1_hasParts_37 (by decide) (fun c6 => ?_) (fun c6 => ?_)
        · have hm := (if_pos c6).symm.trans hm
          refine lv_iconst (v := 1) hx hb dX1_hasParts_48 (by decide) ?_
          refine lv_goto (tgt := 53) hx hb dX1_hasParts_49 (by decide) ?_
          exact W.zret (v := 1) hx hb hr rfl (fun T hT hW => ⟨⟨1, σ, rfl, ⟨Option.some.inj hm, rfl⟩, by rw [posW, hT]; exact hP⟩, hS.F hT⟩) hS.2.2 dX1_hasParts_53
        · have hm := (if_neg c6).symm.trans hm
          refine lv_aload_n hx hb dX1_hasParts_40 rfl (lv_at hl 0 rfl) ?_
          refine lv_iload_n hx hb dX1_hasParts_41 rfl (lv_at hl 3 rfl) ?_
          obtain ⟨r7, h8, hm⟩ := ok_bind hm
          refine calV_i (As := [.int p3]) (rest := []) ⟨hx, hb, hml, hown, hts⟩ (kX1_isKnown l D y a t hI _ σ p3 r7 h8) (cwV 1 hts (gAV aM_X1_48 aI_X1_isKnown aS_X1_isKnown aN_X1 aC_X1_isKnown) rfl rfl rfl eX1_isKnown ⟨Nat.le_of_ble_eq_true rfl, Nat.le_of_ble_eq_true rfl⟩) (preV_W (ci := 1) (q := (RX1, TX1, 8)) hK hP hF hS rfl (wC_1 y a σ)) rfl hl.1 rfl (Nat.le_of_ble_eq_true rfl) dX1_hasParts_42 ⟨Nat.zero_le _, Nat.zero_le _⟩ hS (AC_le hS.1) (fun H locs hP hS hk1 => ?_)
          refine lv_if_eq (tgt := 52) hx hb dX1_hasParts_45 (by decide) (fun c9 => ?_) (fun c9 => ?_)
          · have hm := (if_pos c9).symm.trans hm
            refine lv_iconst (v := 0) hx hb dX1_hasParts_52 (by decide) ?_
            exact W.zret (v := 0) hx hb hr rfl (fun T hT hW => ⟨⟨0, σ, rfl, ⟨Option.some.inj hm, rfl⟩, by rw [posW, hT]; exact hP⟩, hS.F hT⟩) hS.2.2 dX1_hasParts_53
          · have hm := (if_neg c9).symm.trans hm
            refine lv_iconst (v := 1) hx hb dX1_hasParts_48 (by decide) ?_
            refine lv_goto (tgt := 53) hx hb dX1_hasParts_49 (by decide) ?_
            exact W.zret (v := 1) hx hb hr rfl (fun T hT hW => ⟨⟨1, σ, rfl, ⟨Option.some.inj hm, rfl⟩, by rw [posW, hT]; exact hP⟩, hS.F hT⟩) hS.2.2 dX1_hasParts_53
    · have hm := (if_pos c2).symm.trans hm
      refine lv_iconst (v := 1) hx hb dX1_hasParts_25 (by decide) ?_
      exact W.zret (v := 1) hx hb hr rfl (fun T hT hW => ⟨⟨1, σ, rfl, ⟨Option.some.inj hm, rfl⟩, by rw [posW, hT]; exact hP⟩, hS.F hT⟩) hS.2.2 dX1_hasParts_26
  · have hm := (if_pos c1).symm.trans hm
    refine lv_iload_n hx hb dX1_hasParts_4 rfl (lv_at hl 2 rfl) ?_
    refine lv_if_lt (tgt := 18) hx hb dX1_hasParts_5 (by decide) (fun c10 => ?_) (fun c10 => ?_)
    · have hm := (if_pos c10).symm.trans hm
      refine lv_iconst (v := 0) hx hb dX1_hasParts_18 (by decide) ?_
      exact W.zret (v := 0) hx hb hr rfl (fun T hT hW => ⟨⟨0, σ, rfl, ⟨Option.some.inj hm, rfl⟩, by rw [posW, hT]; exact hP⟩, hS.F hT⟩) hS.2.2 dX1_hasParts_19
    · have hm := (if_neg c10).symm.trans hm
      refine lv_iload_n hx hb dX1_hasParts_8 rfl (lv_at hl 2 rfl) ?_
      refine lv_bipush (v := 8) hx hb dX1_hasParts_9 (by decide) ?_
      refine lv_icmp_ge (tgt := 18) hx hb dX1_hasParts_11 (by decide) (fun c11 => ?_) (fun c11 => ?_)
      · have hm := (if_pos c11).symm.trans hm
        refine lv_iconst (v := 0) hx hb dX1_hasParts_18 (by decide) ?_
        exact W.zret (v := 0) hx hb hr rfl (fun T hT hW => ⟨⟨0, σ, rfl, ⟨Option.some.inj hm, rfl⟩, by rw [posW, hT]; exact hP⟩, hS.F hT⟩) hS.2.2 dX1_hasParts_19
      · have hm := (if_neg c11).symm.trans hm
        refine lv_iconst (v := 1) hx hb dX1_hasParts_14 (by decide) ?_
        refine lv_goto (tgt := 19) hx hb dX1_hasParts_15 (by decide) ?_
        exact W.zret (v := 1) hx hb hr rfl (fun T hT hW => ⟨⟨1, σ, rfl, ⟨Option.some.inj hm, rfl⟩, by rw [posW, hT]; exact hP⟩, hS.F hT⟩) hS.2.2 dX1_hasParts_19
theorem eX1_find : yX1_find.cls = RX1 ∧ yX1_find.cls ≠ "java/lang/invoke/MethodHandle" ∧ yX1_find.cls ≠ "java/lang/invoke/VarHandle" ∧ (parseMethodDescriptor yX1_find.desc).map (fun d => d.parameters.length) = some 3 := by decide +kernel
def mX1_find_48 (kh3 : St → Int32 → Int32 → Int32 → Int32 → Option Int32) (σ : St) (v1 : Int32) (v2 : Int32) (v3 : Int32) (v4 : Int32) : Option Int32 :=
bnd (v4 + 1) fun x5 =>
kh3 σ v1 v2 v3 x5
def bX1_find_3 (kh3 : St → Int32 → Int32 → Int32 → Int32 → Option Int32) (σ : St) (v6 : Int32) (v7 : Int32) (v8 : Int32) (v9 : Int32) : Option Int32 :=
if (σ.1 0 0) ≤ v9 then (
some (-1))
else (
chkI v9 240 (
if (σ.1 12 v9.toNatClampNeg) = v6 then (
chkI v9 240 (
if (σ.1 13 v9.toNatClampNeg) = v7 then (
chkI v9 240 (
if (σ.1 14 v9.toNatClampNeg) = v8 then (
some v9)
else (
mX1_find_48 kh3 σ v6 v7 v8 v9)))
else (
mX1_find_48 kh3 σ v6 v7 v8 v9)))
else (
mX1_find_48 kh3 σ v6 v7 v8 v9)))
abbrev mX1_find_3 (n : Nat) : St → Int32 → Int32 → Int32 → Int32 → Option Int32 := fx (fun _ _ _ _ _ => none) (bX1_find_3) n
def mX1_find (σ : St) (p1 : Int32) (p2 : Int32) (p3 : Int32) : Option Int32 :=
mX1_find_3 NF σ p1 p2 p3 0
set_option maxHeartbeats 4000000 in
set_option maxRecDepth 100000 in
theorem kX1_find (l : Launch) (D : va_G) (y : Nat → ClassId) (a t : Nat → Nat) (hI : AI a 37) (sz : Nat) (σ : St) (p1 : Int32) (p2 : Int32) (p3 : Int32) (r : Int32) (hm : mX1_find σ p1 p2 p3 = some r) : Met l yX1_find zX1_find { frames := 0, cells := 0, slots := 0, locals := 0 } (va_Pc [.ref (a 1), .int p1, .int p2, .int p3] (preW (wC y a) a 37 D y t σ sz)) (va_Qi (fun r' u => r' = r ∧ u = σ) (posW (wC y a) D) (AC a 37 sz)) 0 0 (AC a 37 sz) := by
  refine Met.ofW (cc := cX1_find) (maxL := 5) (ret := (some .int)) (by decide) rfl ?_
  intro p e s m args below meth c s₁ B hml hv
  obtain ⟨rfl, hsz, hP, hK, hF⟩ := hv
  have hx := B.exec
  have hb := B.bytes
  have hr := B.returns
  have hts := atoms_spec (ws := zX1_find) B.pre
  have hown : s.vm.findClass RX1 = some m.cls := findClass_of_methodNamed B.named
  have hlocks := B.notSynchronized
  subst hsz
  have l_f34 := hts _ (List.mem_cons_of_mem _ aF_X1_34)
  have l_f9 := hts _ (List.mem_cons_of_mem _ aF_X1_9)
  have l_f15 := hts _ (List.mem_cons_of_mem _ aF_X1_15)
  have l_f18 := hts _ (List.mem_cons_of_mem _ aF_X1_18)
  have h_X1 : ∀ w ∈ wsX10, w.before _ s = true := fun w hw => hts w (List.mem_cons_of_mem _ (hwX1 w hw))
  have hS : va_S (AC a 37 s.heap.size) s.heap s.heap [] := va_S.rf
  have hl := lv_entry ([.ref (a 1), .int p1, .int p2, .int p3]) (n := 5) (Nat.le_of_ble_eq_true rfl)
  rw [lg_entry_eq]
  generalize (lg_sl ([.ref (a 1), .int p1, .int p2, .int p3]) ++ List.replicate (5 - (lg_sl ([.ref (a 1), .int p1, .int p2, .int p3])).length) Slot.unset).toArray = ls at hl ⊢
  have hl : lv_has ls 5 [(0, .ref (a 1)), (1, .int p1), (2, .int p2), (3, .int p3)] := hl
  have L_3 : ∀ (n : Nat) (v6 : Int32) (v7 : Int32) (v8 : Int32) (v9 : Int32) (H : Heap) (locs : List Loc) (ls : Array Slot), va_P D vwCl (wC y a σ) H → va_S (AC a 37 s.heap.size) s.heap H locs → lv_has ls 5 [(0, .ref (a 1)), (1, .int v6), (2, .int v7), (3, .int v8), (4, .int v9)] → mX1_find_3 n σ v6 v7 v8 v9 = some r → W p l e (headSpec zX1_find ({ frames := 0, cells := 0, slots := 0, locals := 0 })).room s m ([.ref (a 1), .int p1, .int p2, .int p3] : List Value).toArray below meth c H locs 0 0 (MQ below (va_Qi (fun r' u => r' = r ∧ u = σ) (posW (wC y a) D) (AC a 37 s.heap.size)) ([.ref (a 1), .int p1, .int p2, .int p3] : List Value).toArray s 0 0 (AC a 37 s.heap.size)) (F0 m 3 ls []) := by
    intro n
    induction n with
    | zero =>
      intro v6 v7 v8 v9 H locs ls hP hS hl hm
      exact absurd (show (none : Option Int32) = some r from hm) (by intro h; cases h)
    | succ n ih3 =>
      obtain ⟨kh3, ekh3⟩ : ∃ z, z = mX1_find_3 n := ⟨_, rfl⟩
      have ih3 : ∀ (v6 : Int32) (v7 : Int32) (v8 : Int32) (v9 : Int32) (H : Heap) (locs : List Loc) (ls : Array Slot), va_P D vwCl (wC y a σ) H → va_S (AC a 37 s.heap.size) s.heap H locs → lv_has ls 5 [(0, .ref (a 1)), (1, .int v6), (2, .int v7), (3, .int v8), (4, .int v9)] → kh3 σ v6 v7 v8 v9 = some r → W p l e (headSpec zX1_find ({ frames := 0, cells := 0, slots := 0, locals := 0 })).room s m ([.ref (a 1), .int p1, .int p2, .int p3] : List Value).toArray below meth c H locs 0 0 (MQ below (va_Qi (fun r' u => r' = r ∧ u = σ) (posW (wC y a) D) (AC a 37 s.heap.size)) ([.ref (a 1), .int p1, .int p2, .int p3] : List Value).toArray s 0 0 (AC a 37 s.heap.size)) (F0 m 3 ls []) := by rw [ekh3]; exact ih3
      have L_48 : ∀ (v1 : Int32) (v2 : Int32) (v3 : Int32) (v4 : Int32) (H : Heap) (locs : List Loc) (ls : Array Slot), va_P D vwCl (wC y a σ) H → va_S (AC a 37 s.heap.size) s.heap H locs → lv_has ls 5 [(0, .ref (a 1)), (1, .int v1), (2, .int v2), (3, .int v3), (4, .int v4)] → mX1_find_48 kh3 σ v1 v2 v3 v4 = some r → W p l e (headSpec zX1_find ({ frames := 0, cells := 0, slots := 0, locals := 0 })).room s m ([.ref (a 1), .int p1, .int p2, .int p3] : List Value).toArray below meth c H locs 0 0 (MQ below (va_Qi (fun r' u => r' = r ∧ u = σ) (posW (wC y a) D) (AC a 37 s.heap.size)) ([.ref (a 1), .int p1, .int p2, .int p3] : List Value).toArray s 0 0 (AC a 37 s.heap.size)) (F0 m 48 ls []) := by
        intro v1 v2 v3 v4 H locs ls hP hS hl hm
        unfold mX1_find_48 at hm
        obtain ⟨x5, ex5⟩ : ∃ z : Int32, z = v4 + 1 := ⟨_, rfl⟩
        have hm := bnd_x ex5 hm
        refine lv_iinc (v := x5) (lv' := [(4, .int x5), (0, .ref (a 1)), (1, .int v1), (2, .int v2), (3, .int v3)]) hx hb dX1_find_48 hl (k := 4) rfl (by rw [ex5]; rfl) (by decide) rfl (fun ls hl => ?_)
        refine lv_goto (tgt := 3) hx hb dX1_find_51 (by decide) ?_
        exact ih3 v1 v2 v3 x5 _ _ _ hP hS (lv_sub hl [1, 2, 3, 4, 0] rfl) hm
      intro v6 v7 v8 v9 H locs ls hP hS hl hm
      have hm : bX1_find_3 (mX1_find_3 n) σ v6 v7 v8 v9 = some r := hm
      rw [← ekh3] at hm
      unfold bX1_find_3 at hm
      refine lv_iload hx hb dX1_find_3 (lv_at hl 4 rfl) ?_
      refine lv_aload_n hx hb dX1_find_5 rfl (lv_at hl 0 rfl) ?_
      refine gfX1_known hx hb h_X1 hown hK hP l_f34 dX1_find_6 ?_
      refine lv_icmp_ge (tgt := 54) hx hb dX1_find_9 (by decide) (fun c10 => ?_) (fun c10 => ?_)
      · have hm := (if_pos c10).symm.trans hm
        refine lv_iconst (v := (-1)) hx hb dX1_find_54 (by decide) ?_
        exact W.iret (v := (-1)) hx hb hr (fun T hT hW => ⟨⟨(-1), σ, rfl, ⟨Option.some.inj hm, rfl⟩, by rw [posW, hT]; exact hP⟩, hS.F hT⟩) hS.2.2 dX1_find_55
      · have hm := (if_neg c10).symm.trans hm
        refine lv_aload_n hx hb dX1_find_12 rfl (lv_at hl 0 rfl) ?_
        refine gfX1_sorts hx hb h_X1 hown hK hP l_f9 dX1_find_13 ?_
        refine lv_iload hx hb dX1_find_16 (lv_at hl 4 rfl) ?_
        obtain ⟨hi, hm⟩ := ok_I hm
        refine ldC_8 hx hb hK hP hi dX1_find_18 ?_
        refine lv_iload_n hx hb dX1_find_19 rfl (lv_at hl 1 rfl) ?_
        refine lv_icmp_ne (tgt := 48) hx hb dX1_find_20 (by decide) (fun c11 => ?_) (fun c11 => ?_)
        · have hm := (if_neg c11).symm.trans hm
          exact L_48 v6 v7 v8 v9 _ _ _ hP hS (lv_sub hl [0, 1, 2, 3, 4] rfl) hm
        · have hm := (if_pos c11).symm.trans hm
          refine lv_aload_n hx hb dX1_find_23 rfl (lv_at hl 0 rfl) ?_
          refine gfX1_firsts hx hb h_X1 hown hK hP l_f15 dX1_find_24 ?_
          refine lv_iload hx hb dX1_find_27 (lv_at hl 4 rfl) ?_
          obtain ⟨hi, hm⟩ := ok_I hm
          refine ldC_9 hx hb hK hP hi dX1_find_29 ?_
          refine lv_iload_n hx hb dX1_find_30 rfl (lv_at hl 2 rfl) ?_
          refine lv_icmp_ne (tgt := 48) hx hb dX1_find_31 (by decide) (fun c12 => ?_) (fun c12 => ?_)
          · have hm := (if_neg c12).symm.trans hm
            exact L_48 v6 v7 v8 v9 _ _ _ hP hS (lv_sub hl [0, 1, 2, 3, 4] rfl) hm
          · have hm := (if_pos c12).symm.trans hm
            refine lv_aload_n hx hb dX1_find_34 rfl (lv_at hl 0 rfl) ?_
            refine gfX1_seconds hx hb h_X1 hown hK hP l_f18 dX1_find_35 ?_
            refine lv_iload hx hb dX1_find_38 (lv_at hl 4 rfl) ?_
            obtain ⟨hi, hm⟩ := ok_I hm
            refine ldC_10 hx hb hK hP hi dX1_find_40 ?_
            refine lv_iload_n hx hb dX1_find_41 rfl (lv_at hl 3 rfl) ?_
            refine lv_icmp_ne (tgt := 48) hx hb dX1_find_42 (by decide) (fun c13 => ?_) (fun c13 => ?_)
            · have hm := (if_neg c13).symm.trans hm
              exact L_48 v6 v7 v8 v9 _ _ _ hP hS (lv_sub hl [0, 1, 2, 3, 4] rfl) hm
            · have hm := (if_pos c13).symm.trans hm
              refine lv_iload hx hb dX1_find_45 (lv_at hl 4 rfl) ?_
              exact W.iret (v := v9) hx hb hr (fun T hT hW => ⟨⟨v9, σ, rfl, ⟨Option.some.inj hm, rfl⟩, by rw [posW, hT]; exact hP⟩, hS.F hT⟩) hS.2.2 dX1_find_47
  unfold mX1_find at hm
  refine lv_iconst (v := 0) hx hb dX1_find_0 (by decide) ?_
  refine lv_istore (lv' := [(4, .int 0), (0, .ref (a 1)), (1, .int p1), (2, .int p2), (3, .int p3)]) hx hb dX1_find_1 hl (by decide) rfl (fun ls hl => ?_)
  exact L_3 NF p1 p2 p3 0 _ _ _ hP hS (lv_sub hl [1, 2, 3, 4, 0] rfl) hm
theorem eX1_needsBrackets : yX1_needsBrackets.cls ≠ "java/lang/invoke/MethodHandle" ∧ yX1_needsBrackets.cls ≠ "java/lang/invoke/VarHandle" ∧ (parseMethodDescriptor yX1_needsBrackets.desc).map (fun d => d.parameters.length) = some 3 := by decide +kernel
def mX1_needsBrackets (σ : St) (p1 : Int32) (p2 : Int32) (p3 : Int32) : Option Int32 :=
if p1 = 2 then (
if p2 = 3 then (
some 1)
else (
if p2 = 4 then (
some 1)
else (
if p2 = 5 then (
some 1)
else (
some 0))))
else (
if p1 = 3 then (
if p2 = 4 then (
some 1)
else (
if p2 = 5 then (
some 1)
else (
if p3 = 0 then (
some 0)
else (
if p2 = 3 then (
some 1)
else (
some 0)))))
else (
if p1 = 4 then (
if p2 = 5 then (
some 1)
else (
if p3 = 0 then (
some 0)
else (
if p2 = 4 then (
some 1)
else (
some 0))))
else (
if p1 = 5 then (
if p3 = 0 then (
if p2 = 5 then (
some 1)
else (
some 0))
else (
some 0))
else (
some 0))))
set_option maxHeartbeats 4000000 in
set_option maxRecDepth 100000 in
theorem kX1_needsBrackets (l : Launch) (D : va_G) (y : Nat → ClassId) (a t : Nat → Nat) (hI : AI a 37) (sz : Nat) (σ : St) (p1 : Int32) (p2 : Int32) (p3 : Int32) (r : Int32) (hm : mX1_needsBrackets σ p1 p2 p3 = some r) : Met l yX1_needsBrackets zX1_needsBrackets { frames := 0, cells := 0, slots := 0, locals := 0 } (va_Pc [.int p1, .int p2, .int p3] (preW (wC y a) a 37 D y t σ sz)) (va_Qi (fun r' u => r' = r ∧ u = σ) (posW (wC y a) D) (AC a 37 sz)) 0 0 (AC a 37 sz) := by
  refine Met.ofW (cc := cX1_needsBrackets) (maxL := 3) (ret := (some .boolean)) (by decide) rfl ?_
  intro p e s m args below meth c s₁ B hml hv
  obtain ⟨rfl, hsz, hP, hK, hF⟩ := hv
  have hx := B.exec
  have hb := B.bytes
  have hr := B.returns
  have hts := atoms_spec (ws := zX1_needsBrackets) B.pre
  have hown : s.vm.findClass RX1 = some m.cls := findClass_of_methodNamed B.named
  have hlocks := B.notSynchronized
  subst hsz
  have hS : va_S (AC a 37 s.heap.size) s.heap s.heap [] := va_S.rf
  have hl := lv_entry ([.int p1, .int p2, .int p3]) (n := 3) (Nat.le_of_ble_eq_true rfl)
  rw [lg_entry_eq]
  generalize (lg_sl ([.int p1, .int p2, .int p3]) ++ List.replicate (3 - (lg_sl ([.int p1, .int p2, .int p3])).length) Slot.unset).toArray = ls at hl ⊢
  have hl : lv_has ls 3 [(0, .int p1), (1, .int p2), (2, .int p3)] := hl
  unfold mX1_needsBrackets at hm
  refine lv_iload_n hx hb dX1_needsBrackets_0 rfl (lv_at hl 0 rfl) ?_
  by_cases c1 : p1 = 2
  · have hm := (if_pos c1).symm.trans hm
    refine lv_tableIn (tgt := 32) hx hb dX1_needsBrackets_1 (by rw [c1]; decide) (by rw [c1]; decide) (by rw [c1]; rfl) (by decide) ?_
    refine lv_iload_n hx hb dX1_needsBrackets_32 rfl (lv_at hl 1 rfl) ?_
    refine lv_iconst (v := 3) hx hb dX1_needsBrackets_33 (by decide) ?_
    refine lv_icmp_eq (tgt := 47) hx hb dX1_needsBrackets_34 (by decide) (fun c2 => ?_) (fun c2 => ?_)
    · have hm := (if_pos c2).symm.trans hm
      refine lv_iconst (v := 1) hx hb dX1_needsBrackets_47 (by decide) ?_
      refine lv_goto (tgt := 52) hx hb dX1_needsBrackets_48 (by decide) ?_
      exact W.zret (v := 1) hx hb hr rfl (fun T hT hW => ⟨⟨1, σ, rfl, ⟨Option.some.inj hm, rfl⟩, by rw [posW, hT]; exact hP⟩, hS.F hT⟩) hS.2.2 dX1_needsBrackets_52
    · have hm := (if_neg c2).symm.trans hm
      refine lv_iload_n hx hb dX1_needsBrackets_37 rfl (lv_at hl 1 rfl) ?_
      refine lv_iconst (v := 4) hx hb dX1_needsBrackets_38 (by decide) ?_
      refine lv_icmp_eq (tgt := 47) hx hb dX1_needsBrackets_39 (by decide) (fun c3 => ?_) (fun c3 => ?_)
      · have hm := (if_pos c3).symm.trans hm
        refine lv_iconst (v := 1) hx hb dX1_needsBrackets_47 (by decide) ?_
        refine lv_goto (tgt := 52) hx hb dX1_needsBrackets_48 (by decide) ?_
        exact W.zret (v := 1) hx hb hr rfl (fun T hT hW => ⟨⟨1, σ, rfl, ⟨Option.some.inj hm, rfl⟩, by rw [posW, hT]; exact hP⟩, hS.F hT⟩) hS.2.2 dX1_needsBrackets_52
      · have hm := (if_neg c3).symm.trans hm
        refine lv_iload_n hx hb dX1_needsBrackets_42 rfl (lv_at hl 1 rfl) ?_
        refine lv_iconst (v := 5) hx hb dX1_needsBrackets_43 (by decide) ?_
        refine lv_icmp_ne (tgt := 51) hx hb dX1_needsBrackets_44 (by decide) (fun c4 => ?_) (fun c4 => ?_)
        · have hm := (if_neg c4).symm.trans hm
          refine lv_iconst (v := 0) hx hb dX1_needsBrackets_51 (by decide) ?_
          exact W.zret (v := 0) hx hb hr rfl (fun T hT hW => ⟨⟨0, σ, rfl, ⟨Option.some.inj hm, rfl⟩, by rw [posW, hT]; exact hP⟩, hS.F hT⟩) hS.2.2 dX1_needsBrackets_52
        · have hm := (if_pos c4).symm.trans hm
          refine lv_iconst (v := 1) hx hb dX1_needsBrackets_47 (by decide) ?_
          refine lv_goto (tgt := 52) hx hb dX1_needsBrackets_48 (by decide) ?_
          exact W.zret (v := 1) hx hb hr rfl (fun T hT hW => ⟨⟨1, σ, rfl, ⟨Option.some.inj hm, rfl⟩, by rw [posW, hT]; exact hP⟩, hS.F hT⟩) hS.2.2 dX1_needsBrackets_52
  · have hm := (if_neg c1).symm.trans hm
    have sc1 := sw_ne (k := 2) c1 rfl
    by_cases c5 : p1 = 3
    · have hm := (if_pos c5).symm.trans hm
      refine lv_tableIn (tgt := 53) hx hb dX1_needsBrackets_1 (by rw [c5]; decide) (by rw [c5]; decide) (by rw [c5]; rfl) (by decide) ?_
      refine lv_iload_n hx hb dX1_needsBrackets_53 rfl (lv_at hl 1 rfl) ?_
      refine lv_iconst (v := 4) hx hb dX1_needsBrackets_54 (by decide) ?_
      refine lv_icmp_eq (tgt := 72) hx hb dX1_needsBrackets_55 (by decide) (fun c6 => ?_) (fun c6 => ?_)
      · have hm := (if_pos c6).symm.trans hm
        refine lv_iconst (v := 1) hx hb dX1_needsBrackets_72 (by decide) ?_
        refine lv_goto (tgt := 77) hx hb dX1_needsBrackets_73 (by decide) ?_
        exact W.zret (v := 1) hx hb hr rfl (fun T hT hW => ⟨⟨1, σ, rfl, ⟨Option.some.inj hm, rfl⟩, by rw [posW, hT]; exact hP⟩, hS.F hT⟩) hS.2.2 dX1_needsBrackets_77
      · have hm := (if_neg c6).symm.trans hm
        refine lv_iload_n hx hb dX1_needsBrackets_58 rfl (lv_at hl 1 rfl) ?_
        refine lv_iconst (v := 5) hx hb dX1_needsBrackets_59 (by decide) ?_
        refine lv_icmp_eq (tgt := 72) hx hb dX1_needsBrackets_60 (by decide) (fun c7 => ?_) (fun c7 => ?_)
        · have hm := (if_pos c7).symm.trans hm
          refine lv_iconst (v := 1) hx hb dX1_needsBrackets_72 (by decide) ?_
          refine lv_goto (tgt := 77) hx hb dX1_needsBrackets_73 (by decide) ?_
          exact W.zret (v := 1) hx hb hr rfl (fun T hT hW => ⟨⟨1, σ, rfl, ⟨Option.some.inj hm, rfl⟩, by rw [posW, hT]; exact hP⟩, hS.F hT⟩) hS.2.2 dX1_needsBrackets_77
        · have hm := (if_neg c7).symm.trans hm
          refine lv_iload_n hx hb dX1_needsBrackets_63 rfl (lv_at hl 2 rfl) ?_
          refine lv_if_eq (tgt := 76) hx hb dX1_needsBrackets_64 (by decide) (fun c8 => ?_) (fun c8 => ?_)
          · have hm := (if_pos c8).symm.trans hm
            refine lv_iconst (v := 0) hx hb dX1_needsBrackets_76 (by decide) ?_
            exact W.zret (v := 0) hx hb hr rfl (fun T hT hW => ⟨⟨0, σ, rfl, ⟨Option.some.inj hm, rfl⟩, by rw [posW, hT]; exact hP⟩, hS.F hT⟩) hS.2.2 dX1_needsBrackets_77
          · have hm := (if_neg c8).symm.trans hm
            refine lv_iload_n hx hb dX1_needsBrackets_67 rfl (lv_at hl 1 rfl) ?_
            refine lv_iconst (v := 3) hx hb dX1_needsBrackets_68 (by decide) ?_
            refine lv_icmp_ne (tgt := 76) hx hb dX1_needsBrackets_69 (by decide) (fun c9 => ?_) (fun c9 => ?_)
            · have hm := (if_neg c9).symm.trans hm
              refine lv_iconst (v := 0) hx hb dX1_needsBrackets_76 (by decide) ?_
              exact W.zret (v := 0) hx hb hr rfl (fun T hT hW => ⟨⟨0, σ, rfl, ⟨Option.some.inj hm, rfl⟩, by rw [posW, hT]; exact hP⟩, hS.F hT⟩) hS.2.2 dX1_needsBrackets_77
            · have hm := (if_pos c9).symm.trans hm
              refine lv_iconst (v := 1) hx hb dX1_needsBrackets_72 (by decide) ?_
              refine lv_goto (tgt := 77) hx hb dX1_needsBrackets_73 (by decide) ?_
              exact W.zret (v := 1) hx hb hr rfl (fun T hT hW => ⟨⟨1, σ, rfl, ⟨Option.some.inj hm, rfl⟩, by rw [posW, hT]; exact hP⟩, hS.F hT⟩) hS.2.2 dX1_needsBrackets_77
    · have hm := (if_neg c5).symm.trans hm
      have sc5 := sw_ne (k := 3) c5 rfl
      by_cases c10 : p1 = 4
      · have hm := (if_pos c10).symm.trans hm
        refine lv_tableIn (tgt := 78) hx hb dX1_needsBrackets_1 (by rw [c10]; decide) (by rw [c10]; decide) (by rw [c10]; rfl) (by decide) ?_
        refine lv_iload_n hx hb dX1_needsBrackets_78 rfl (lv_at hl 1 rfl) ?_
        refine lv_iconst (v := 5) hx hb dX1_needsBrackets_79 (by decide) ?_
        refine lv_icmp_eq (tgt := 92) hx hb dX1_needsBrackets_80 (by decide) (fun c11 => ?_) (fun c11 => ?_)
        · have hm := (if_pos c11).symm.trans hm
          refine lv_iconst (v := 1) hx hb dX1_needsBrackets_92 (by decide) ?_
          refine lv_goto (tgt := 97) hx hb dX1_needsBrackets_93 (by decide) ?_
          exact W.zret (v := 1) hx hb hr rfl (fun T hT hW => ⟨⟨1, σ, rfl, ⟨Option.some.inj hm, rfl⟩, by rw [posW, hT]; exact hP⟩, hS.F hT⟩) hS.2.2 dX1_needsBrackets_97
        · have hm := (if_neg c11).symm.trans hm
          refine lv_iload_n hx hb dX1_needsBrackets_83 rfl (lv_at hl 2 rfl) ?_
          refine lv_if_eq (tgt := 96) hx hb dX1_needsBrackets_84 (by decide) (fun c12 => ?_) (fun c12 => ?_)
          · have hm := (if_pos c12).symm.trans hm
            refine lv_iconst (v := 0) hx hb dX1_needsBrackets_96 (by decide) ?_
            exact W.zret (v := 0) hx hb hr rfl (fun T hT hW => ⟨⟨0, σ, rfl, ⟨Option.some.inj hm, rfl⟩, by rw [posW, hT]; exact hP⟩, hS.F hT⟩) hS.2.2 dX1_needsBrackets_97
          · have hm := (if_neg c12).symm.trans hm
            refine lv_iload_n hx hb dX1_needsBrackets_87 rfl (lv_at hl 1 rfl) ?_
            refine lv_iconst (v := 4) hx hb dX1_needsBrackets_88 (by decide) ?_
            refine lv_icmp_ne (tgt := 96) hx hb dX1_needsBrackets_89 (by decide) (fun c13 => ?_) (fun c13 => ?_)
            · have hm := (if_neg c13).symm.trans hm
              refine lv_iconst (v := 0) hx hb dX1_needsBrackets_96 (by decide) ?_
              exact W.zret (v := 0) hx hb hr rfl (fun T hT hW => ⟨⟨0, σ, rfl, ⟨Option.some.inj hm, rfl⟩, by rw [posW, hT]; exact hP⟩, hS.F hT⟩) hS.2.2 dX1_needsBrackets_97
            · have hm := (if_pos c13).symm.trans hm
              refine lv_iconst (v := 1) hx hb dX1_needsBrackets_92 (by decide) ?_
              refine lv_goto (tgt := 97) hx hb dX1_needsBrackets_93 (by decide) ?_
              exact W.zret (v := 1) hx hb hr rfl (fun T hT hW => ⟨⟨1, σ, rfl, ⟨Option.some.inj hm, rfl⟩, by rw [posW, hT]; exact hP⟩, hS.F hT⟩) hS.2.2 dX1_needsBrackets_97
      · have hm := (if_neg c10).symm.trans hm
        have sc10 := sw_ne (k := 4) c10 rfl
        by_cases c14 : p1 = 5
        · have hm := (if_pos c14).symm.trans hm
          refine lv_tableIn (tgt := 98) hx hb dX1_needsBrackets_1 (by rw [c14]; decide) (by rw [c14]; decide) (by rw [c14]; rfl) (by decide) ?_
          refine lv_iload_n hx hb dX1_needsBrackets_98 rfl (lv_at hl 2 rfl) ?_
          refine lv_if_ne (tgt := 111) hx hb dX1_needsBrackets_99 (by decide) (fun c15 => ?_) (fun c15 => ?_)
          · have hm := (if_neg c15).symm.trans hm
            refine lv_iconst (v := 0) hx hb dX1_needsBrackets_111 (by decide) ?_
            exact W.zret (v := 0) hx hb hr rfl (fun T hT hW => ⟨⟨0, σ, rfl, ⟨Option.some.inj hm, rfl⟩, by rw [posW, hT]; exact hP⟩, hS.F hT⟩) hS.2.2 dX1_needsBrackets_112
          · have hm := (if_pos c15).symm.trans hm
            refine lv_iload_n hx hb dX1_needsBrackets_102 rfl (lv_at hl 1 rfl) ?_
            refine lv_iconst (v := 5) hx hb dX1_needsBrackets_103 (by decide) ?_
            refine lv_icmp_ne (tgt := 111) hx hb dX1_needsBrackets_104 (by decide) (fun c16 => ?_) (fun c16 => ?_)
            · have hm := (if_neg c16).symm.trans hm
              refine lv_iconst (v := 0) hx hb dX1_needsBrackets_111 (by decide) ?_
              exact W.zret (v := 0) hx hb hr rfl (fun T hT hW => ⟨⟨0, σ, rfl, ⟨Option.some.inj hm, rfl⟩, by rw [posW, hT]; exact hP⟩, hS.F hT⟩) hS.2.2 dX1_needsBrackets_112
            · have hm := (if_pos c16).symm.trans hm
              refine lv_iconst (v := 1) hx hb dX1_needsBrackets_107 (by decide) ?_
              refine lv_goto (tgt := 112) hx hb dX1_needsBrackets_108 (by decide) ?_
              exact W.zret (v := 1) hx hb hr rfl (fun T hT hW => ⟨⟨1, σ, rfl, ⟨Option.some.inj hm, rfl⟩, by rw [posW, hT]; exact hP⟩, hS.F hT⟩) hS.2.2 dX1_needsBrackets_112
        · have hm := (if_neg c14).symm.trans hm
          have sc14 := sw_ne (k := 5) c14 rfl
          refine lv_tableOut (tgt := 113) hx hb dX1_needsBrackets_1 (by omega) (by decide) ?_
          refine lv_iconst (v := 0) hx hb dX1_needsBrackets_113 (by decide) ?_
          exact W.zret (v := 0) hx hb hr rfl (fun T hT hW => ⟨⟨0, σ, rfl, ⟨Option.some.inj hm, rfl⟩, by rw [posW, hT]; exact hP⟩, hS.F hT⟩) hS.2.2 dX1_needsBrackets_114
theorem eX1_truthOfLetter : yX1_truthOfLetter.cls ≠ "java/lang/invoke/MethodHandle" ∧ yX1_truthOfLetter.cls ≠ "java/lang/invoke/VarHandle" ∧ (parseMethodDescriptor yX1_truthOfLetter.desc).map (fun d => d.parameters.length) = some 2 := by decide +kernel
def mX1_truthOfLetter_18 (σ : St) (v1 : Int32) (v2 : Int32) : Option Int64 :=
if ((v2 >>> ((v1 - 6) &&& 31)) &&& 1) = 0 then (
some 0)
else (
some (-1))
def mX1_truthOfLetter (σ : St) (p1 : Int32) (p2 : Int32) : Option Int64 :=
if p1 < 0 then (
mX1_truthOfLetter_18 σ p1 p2)
else (
if 6 ≤ p1 then (
mX1_truthOfLetter_18 σ p1 p2)
else (
chkI p1 6 (
some (kLW p1.toNatClampNeg))))
set_option maxHeartbeats 4000000 in
set_option maxRecDepth 100000 in
theorem kX1_truthOfLetter (l : Launch) (D : va_G) (y : Nat → ClassId) (a t : Nat → Nat) (hI : AI a 37) (sz : Nat) (σ : St) (p1 : Int32) (p2 : Int32) (r : Int64) (hm : mX1_truthOfLetter σ p1 p2 = some r) : Met l yX1_truthOfLetter zX1_truthOfLetter { frames := 0, cells := 0, slots := 0, locals := 0 } (va_Pc [.int p1, .int p2] (preW (wC y a) a 37 D y t σ sz)) (va_Ql (fun r' u => r' = r ∧ u = σ) (posW (wC y a) D) (AC a 37 sz)) 0 0 (AC a 37 sz) := by
  refine Met.ofW (cc := cX1_truthOfLetter) (maxL := 2) (ret := (some .long)) (by decide) rfl ?_
  intro p e s m args below meth c s₁ B hml hv
  obtain ⟨rfl, hsz, hP, hK, hF⟩ := hv
  have hx := B.exec
  have hb := B.bytes
  have hr := B.returns
  have hts := atoms_spec (ws := zX1_truthOfLetter) B.pre
  have hown : s.vm.findClass RX1 = some m.cls := findClass_of_methodNamed B.named
  have hlocks := B.notSynchronized
  subst hsz
  have l_f95 := hts _ (List.mem_cons_of_mem _ aF_X1_95)
  have l_c98 := hts _ (List.mem_cons_of_mem _ aK_X1_98)
  have hS : va_S (AC a 37 s.heap.size) s.heap s.heap [] := va_S.rf
  have hl := lv_entry ([.int p1, .int p2]) (n := 2) (Nat.le_of_ble_eq_true rfl)
  rw [lg_entry_eq]
  generalize (lg_sl ([.int p1, .int p2]) ++ List.replicate (2 - (lg_sl ([.int p1, .int p2])).length) Slot.unset).toArray = ls at hl ⊢
  have hl : lv_has ls 2 [(0, .int p1), (1, .int p2)] := hl
  have L_18 : ∀ (v1 : Int32) (v2 : Int32) (H : Heap) (locs : List Loc) (ls : Array Slot), va_P D vwCl (wC y a σ) H → va_S (AC a 37 s.heap.size) s.heap H locs → lv_has ls 2 [(0, .int v1), (1, .int v2)] → mX1_truthOfLetter_18 σ v1 v2 = some r → W p l e (headSpec zX1_truthOfLetter ({ frames := 0, cells := 0, slots := 0, locals := 0 })).room s m ([.int p1, .int p2] : List Value).toArray below meth c H locs 0 0 (MQ below (va_Ql (fun r' u => r' = r ∧ u = σ) (posW (wC y a) D) (AC a 37 s.heap.size)) ([.int p1, .int p2] : List Value).toArray s 0 0 (AC a 37 s.heap.size)) (F0 m 18 ls []) := by
    intro v1 v2 H locs ls hP hS hl hm
    unfold mX1_truthOfLetter_18 at hm
    refine lv_iload_n hx hb dX1_truthOfLetter_18 rfl (lv_at hl 1 rfl) ?_
    refine lv_iload_n hx hb dX1_truthOfLetter_19 rfl (lv_at hl 0 rfl) ?_
    refine va_gets hx hb hF.2.2.1 hS hown l_f95 (fun _ h9 => h9) dX1_truthOfLetter_20 ?_
    refine va_tlen (v := 6) hx hb hF.2.2.2.1 hS rfl dX1_truthOfLetter_23 ?_
    refine lv_isub hx hb dX1_truthOfLetter_24 ?_
    refine lv_ishr hx hb dX1_truthOfLetter_25 ?_
    refine lv_iconst (v := 1) hx hb dX1_truthOfLetter_26 (by decide) ?_
    refine lv_iand hx hb dX1_truthOfLetter_27 ?_
    refine lv_if_eq (tgt := 37) hx hb dX1_truthOfLetter_28 (by decide) (fun c3 => ?_) (fun c3 => ?_)
    · have hm := (if_pos c3).symm.trans hm
      refine lv_lconst (v := 0) hx hb dX1_truthOfLetter_37 (by decide) ?_
      exact W.lret (v := 0) hx hb hr (fun T hT hW => ⟨⟨0, σ, rfl, ⟨Option.some.inj hm, rfl⟩, by rw [posW, hT]; exact hP⟩, hS.F hT⟩) hS.2.2 dX1_truthOfLetter_38
    · have hm := (if_neg c3).symm.trans hm
      refine lv_ldc2 (v := (-1)) hx hb hown l_c98 dX1_truthOfLetter_31 ?_
      refine lv_goto (tgt := 38) hx hb dX1_truthOfLetter_34 (by decide) ?_
      exact W.lret (v := (-1)) hx hb hr (fun T hT hW => ⟨⟨(-1), σ, rfl, ⟨Option.some.inj hm, rfl⟩, by rw [posW, hT]; exact hP⟩, hS.F hT⟩) hS.2.2 dX1_truthOfLetter_38
  unfold mX1_truthOfLetter at hm
  refine lv_iload_n hx hb dX1_truthOfLetter_0 rfl (lv_at hl 0 rfl) ?_
  refine lv_if_lt (tgt := 18) hx hb dX1_truthOfLetter_1 (by decide) (fun c4 => ?_) (fun c4 => ?_)
  · have hm := (if_pos c4).symm.trans hm
    exact L_18 p1 p2 _ _ _ hP hS (lv_sub hl [0, 1] rfl) hm
  · have hm := (if_neg c4).symm.trans hm
    refine lv_iload_n hx hb dX1_truthOfLetter_4 rfl (lv_at hl 0 rfl) ?_
    refine va_gets hx hb hF.2.2.1 hS hown l_f95 (fun _ h9 => h9) dX1_truthOfLetter_5 ?_
    refine va_tlen (v := 6) hx hb hF.2.2.2.1 hS rfl dX1_truthOfLetter_8 ?_
    refine lv_icmp_ge (tgt := 18) hx hb dX1_truthOfLetter_9 (by decide) (fun c5 => ?_) (fun c5 => ?_)
    · have hm := (if_pos c5).symm.trans hm
      exact L_18 p1 p2 _ _ _ hP hS (lv_sub hl [0, 1] rfl) hm
    · have hm := (if_neg c5).symm.trans hm
      refine va_gets hx hb hF.2.2.1 hS hown l_f95 (fun _ h9 => h9) dX1_truthOfLetter_12 ?_
      refine lv_iload_n hx hb dX1_truthOfLetter_15 rfl (lv_at hl 0 rfl) ?_
      obtain ⟨hi, hm⟩ := ok_I hm
      refine va_tl hx hb hF.2.2.2.1 hS hi rfl dX1_truthOfLetter_16 ?_
      exact W.lret (v := kLW p1.toNatClampNeg) hx hb hr (fun T hT hW => ⟨⟨kLW p1.toNatClampNeg, σ, rfl, ⟨Option.some.inj hm, rfl⟩, by rw [posW, hT]; exact hP⟩, hS.F hT⟩) hS.2.2 dX1_truthOfLetter_17
theorem eX1_truthOfParts : yX1_truthOfParts.cls ≠ "java/lang/invoke/MethodHandle" ∧ yX1_truthOfParts.cls ≠ "java/lang/invoke/VarHandle" ∧ (parseMethodDescriptor yX1_truthOfParts.desc).map (fun d => d.parameters.length) = some 3 := by decide +kernel
def mX1_truthOfParts (σ : St) (p1 : Int32) (p2 : Int64) (p3 : Int64) : Option Int64 :=
if p1 = 2 then (
some (p2 ^^^ (-1)))
else (
if p1 = 3 then (
some (p2 &&& p3))
else (
if p1 = 4 then (
some (p2 ||| p3))
else (
if p1 = 5 then (
some ((p2 ^^^ (-1)) ||| p3))
else (
some 0))))
set_option maxHeartbeats 4000000 in
set_option maxRecDepth 100000 in
theorem kX1_truthOfParts (l : Launch) (D : va_G) (y : Nat → ClassId) (a t : Nat → Nat) (hI : AI a 37) (sz : Nat) (σ : St) (p1 : Int32) (p2 : Int64) (p3 : Int64) (r : Int64) (hm : mX1_truthOfParts σ p1 p2 p3 = some r) : Met l yX1_truthOfParts zX1_truthOfParts { frames := 0, cells := 0, slots := 0, locals := 0 } (va_Pc [.int p1, .long p2, .long p3] (preW (wC y a) a 37 D y t σ sz)) (va_Ql (fun r' u => r' = r ∧ u = σ) (posW (wC y a) D) (AC a 37 sz)) 0 0 (AC a 37 sz) := by
  refine Met.ofW (cc := cX1_truthOfParts) (maxL := 5) (ret := (some .long)) (by decide) rfl ?_
  intro p e s m args below meth c s₁ B hml hv
  obtain ⟨rfl, hsz, hP, hK, hF⟩ := hv
  have hx := B.exec
  have hb := B.bytes
  have hr := B.returns
  have hts := atoms_spec (ws := zX1_truthOfParts) B.pre
  have hown : s.vm.findClass RX1 = some m.cls := findClass_of_methodNamed B.named
  have hlocks := B.notSynchronized
  subst hsz
  have l_c98 := hts _ (List.mem_cons_of_mem _ aK_X1_98)
  have hS : va_S (AC a 37 s.heap.size) s.heap s.heap [] := va_S.rf
  have hl := lv_entry ([.int p1, .long p2, .long p3]) (n := 5) (Nat.le_of_ble_eq_true rfl)
  rw [lg_entry_eq]
  generalize (lg_sl ([.int p1, .long p2, .long p3]) ++ List.replicate (5 - (lg_sl ([.int p1, .long p2, .long p3])).length) Slot.unset).toArray = ls at hl ⊢
  have hl : lv_has ls 5 [(0, .int p1), (1, .long p2), (3, .long p3)] := hl
  unfold mX1_truthOfParts at hm
  refine lv_iload_n hx hb dX1_truthOfParts_0 rfl (lv_at hl 0 rfl) ?_
  by_cases c1 : p1 = 2
  · have hm := (if_pos c1).symm.trans hm
    refine lv_tableIn (tgt := 32) hx hb dX1_truthOfParts_1 (by rw [c1]; decide) (by rw [c1]; decide) (by rw [c1]; rfl) (by decide) ?_
    refine lv_lload_n hx hb dX1_truthOfParts_32 rfl (lv_at hl 1 rfl) ?_
    refine lv_ldc2 (v := (-1)) hx hb hown l_c98 dX1_truthOfParts_33 ?_
    refine lv_lxor hx hb dX1_truthOfParts_36 ?_
    exact W.lret (v := p2 ^^^ (-1)) hx hb hr (fun T hT hW => ⟨⟨p2 ^^^ (-1), σ, rfl, ⟨Option.some.inj hm, rfl⟩, by rw [posW, hT]; exact hP⟩, hS.F hT⟩) hS.2.2 dX1_truthOfParts_37
  · have hm := (if_neg c1).symm.trans hm
    have sc1 := sw_ne (k := 2) c1 rfl
    by_cases c2 : p1 = 3
    · have hm := (if_pos c2).symm.trans hm
      refine lv_tableIn (tgt := 38) hx hb dX1_truthOfParts_1 (by rw [c2]; decide) (by rw [c2]; decide) (by rw [c2]; rfl) (by decide) ?_
      refine lv_lload_n hx hb dX1_truthOfParts_38 rfl (lv_at hl 1 rfl) ?_
      refine lv_lload_n hx hb dX1_truthOfParts_39 rfl (lv_at hl 2 rfl) ?_
      refine lv_land hx hb dX1_truthOfParts_40 ?_
      exact W.lret (v := p2 &&& p3) hx hb hr (fun T hT hW => ⟨⟨p2 &&& p3, σ, rfl, ⟨Option.some.inj hm, rfl⟩, by rw [posW, hT]; exact hP⟩, hS.F hT⟩) hS.2.2 dX1_truthOfParts_41
    · have hm := (if_neg c2).symm.trans hm
      have sc2 := sw_ne (k := 3) c2 rfl
      by_cases c3 : p1 = 4
      · have hm := (if_pos c3).symm.trans hm
        refine lv_tableIn (tgt := 42) hx hb dX1_truthOfParts_1 (by rw [c3]; decide) (by rw [c3]; decide) (by rw [c3]; rfl) (by decide) ?_
        refine lv_lload_n hx hb dX1_truthOfParts_42 rfl (lv_at hl 1 rfl) ?_
        refine lv_lload_n hx hb dX1_truthOfParts_43 rfl (lv_at hl 2 rfl) ?_
        refine lv_lor hx hb dX1_truthOfParts_44 ?_
        exact W.lret (v := p2 ||| p3) hx hb hr (fun T hT hW => ⟨⟨p2 ||| p3, σ, rfl, ⟨Option.some.inj hm, rfl⟩, by rw [posW, hT]; exact hP⟩, hS.F hT⟩) hS.2.2 dX1_truthOfParts_45
      · have hm := (if_neg c3).symm.trans hm
        have sc3 := sw_ne (k := 4) c3 rfl
        by_cases c4 : p1 = 5
        · have hm := (if_pos c4).symm.trans hm
          refine lv_tableIn (tgt := 46) hx hb dX1_truthOfParts_1 (by rw [c4]; decide) (by rw [c4]; decide) (by rw [c4]; rfl) (by decide) ?_
          refine lv_lload_n hx hb dX1_truthOfParts_46 rfl (lv_at hl 1 rfl) ?_
          refine lv_ldc2 (v := (-1)) hx hb hown l_c98 dX1_truthOfParts_47 ?_
          refine lv_lxor hx hb dX1_truthOfParts_50 ?_
          refine lv_lload_n hx hb dX1_truthOfParts_51 rfl (lv_at hl 2 rfl) ?_
          refine lv_lor hx hb dX1_truthOfParts_52 ?_
          exact W.lret (v := (p2 ^^^ (-1)) ||| p3) hx hb hr (fun T hT hW => ⟨⟨(p2 ^^^ (-1)) ||| p3, σ, rfl, ⟨Option.some.inj hm, rfl⟩, by rw [posW, hT]; exact hP⟩, hS.F hT⟩) hS.2.2 dX1_truthOfParts_53
        · have hm := (if_neg c4).symm.trans hm
          have sc4 := sw_ne (k := 5) c4 rfl
          refine lv_tableOut (tgt := 54) hx hb dX1_truthOfParts_1 (by omega) (by decide) ?_
          refine lv_lconst (v := 0) hx hb dX1_truthOfParts_54 (by decide) ?_
          exact W.lret (v := 0) hx hb hr (fun T hT hW => ⟨⟨0, σ, rfl, ⟨Option.some.inj hm, rfl⟩, by rw [posW, hT]; exact hP⟩, hS.F hT⟩) hS.2.2 dX1_truthOfParts_55
theorem eX1_add : yX1_add.cls = RX1 ∧ yX1_add.cls ≠ "java/lang/invoke/MethodHandle" ∧ yX1_add.cls ≠ "java/lang/invoke/VarHandle" ∧ (parseMethodDescriptor yX1_add.desc).map (fun d => d.parameters.length) = some 3 := by decide +kernel
def mX1_add_239 (s1 : St) : Option St :=
bnd (su s1 0 (fun _ => (s1.1 0 0) + 1)) fun s2 =>
some s2
def mX1_add_232 (kh183 : St → Int32 → Int32 → Int32 → Int32 → Int32 → Int32 → Option St) (s11 : St) (v3 : Int32) (v4 : Int32) (v5 : Int32) (v6 : Int32) (v7 : Int32) (v8 : Int32) (v9 : Int64) (v10 : Int32) : Option St :=
chkI v10 960 (
bnd (sl s11 (vp_updL s11.2 v10.toNatClampNeg v9)) fun s12 =>
bnd (v8 + 1) fun x13 =>
kh183 s12 v3 v4 v5 v6 v7 x13)
def bX1_add_183 (kh183 : St → Int32 → Int32 → Int32 → Int32 → Int32 → Int32 → Option St) (s20 : St) (v14 : Int32) (v15 : Int32) (v16 : Int32) (v17 : Int32) (v18 : Int32) (v19 : Int32) : Option St :=
if 4 ≤ v19 then (
mX1_add_239 s20)
else (
if v14 = 0 then (
(mX1_truthOfLetter s20 v15 v19).bind fun r29 =>
mX1_add_232 kh183 s20 v14 v15 v16 v17 v18 v19 r29 ((v17 * 4) + v19))
else (
(mX1_truth s20 v18 v19).bind fun r23 =>
(mX1_truth s20 v16 v19).bind fun r25 =>
(mX1_truthOfParts s20 v14 r23 r25).bind fun r27 =>
mX1_add_232 kh183 s20 v14 v15 v16 v17 v18 v19 r27 ((v17 * 4) + v19)))
abbrev mX1_add_183 (n : Nat) : St → Int32 → Int32 → Int32 → Int32 → Int32 → Int32 → Option St := fx (fun _ _ _ _ _ _ _ => none) (bX1_add_183) n
def mX1_add_148 (s38 : St) (v31 : Int32) (v32 : Int32) (v33 : Int32) (v34 : Int32) (v35 : Int32) (v36 : Int32) (v37 : Int32) : Option St :=
bnd (v37 + v36) fun x39 =>
(mX1_width s38 v35).bind fun r40 =>
(mX1_width s38 v33).bind fun r42 =>
chkI v34 240 (
bnd (su s38 17 (upd (s38.1 17) v34.toNatClampNeg (if (((1 + r40) + r42) + x39) < (1000000 : Int32) then ((1 + r40) + r42) + x39 else 1000000))) fun s44 =>
mX1_add_183 NF s44 v31 v32 v33 v34 v35 0)
def mX1_add_130 (s51 : St) (v45 : Int32) (v46 : Int32) (v47 : Int32) (v48 : Int32) (v49 : Int32) (v50 : Int32) : Option St :=
(mX1_sort s51 v47).bind fun r52 =>
(mX1_needsBrackets s51 v45 r52 1).bind fun r54 =>
if r54 = 0 then (
mX1_add_148 s51 v45 v46 v47 v48 v49 0 v50)
else (
mX1_add_148 s51 v45 v46 v47 v48 v49 2 v50)
def mX1_add_84 (s64 : St) (v57 : Int32) (v58 : Int32) (v59 : Int32) (v60 : Int32) (v61 : Int32) (v62 : Int32) (v63 : Int32) : Option St :=
chkI v63 240 (
bnd (su s64 15 (upd (s64.1 15) v63.toNatClampNeg v62)) fun s65 =>
(mX1_size s65 v61).bind fun r66 =>
(mX1_size s65 v59).bind fun r68 =>
chkI v60 240 (
bnd (su s65 16 (upd (s65.1 16) v60.toNatClampNeg (if ((1 + r66) + r68) < (1000000 : Int32) then (1 + r66) + r68 else 1000000))) fun s70 =>
(mX1_sort s70 v61).bind fun r71 =>
(mX1_needsBrackets s70 v57 r71 0).bind fun r73 =>
if r73 = 0 then (
mX1_add_130 s70 v57 v58 v59 v60 v61 0)
else (
mX1_add_130 s70 v57 v58 v59 v60 v61 2)))
def mX1_add_30 (s81 : St) (v76 : Int32) (v77 : Int32) (v78 : Int32) (v79 : Int32) (v80 : Int32) : Option St :=
chkI v79 240 (
bnd (su s81 12 (upd (s81.1 12) v79.toNatClampNeg v76)) fun s82 =>
chkI v79 240 (
bnd (su s82 13 (upd (s82.1 13) v79.toNatClampNeg v77)) fun s83 =>
chkI v79 240 (
bnd (su s83 14 (upd (s83.1 14) v79.toNatClampNeg v78)) fun s84 =>
if v76 = 0 then (
mX1_add_84 s84 v76 v77 v78 v79 v80 ((1 : Int32) <<< (v77 &&& 31)) v79)
else (
(mX1_letters s84 v80).bind fun r86 =>
(mX1_letters s84 v78).bind fun r88 =>
mX1_add_84 s84 v76 v77 v78 v79 v80 (r86 ||| r88) v79))))
def mX1_add (σ : St) (p1 : Int32) (p2 : Int32) (p3 : Int32) : Option St :=
bnd (σ.1 0 0) fun x90 =>
if x90 < 0 then (
some σ)
else (
if x90 < 240 then (
if p1 < 2 then (
mX1_add_30 σ p1 p2 p3 x90 (-1))
else (
mX1_add_30 σ p1 p2 p3 x90 p2))
else (
some σ))
set_option maxHeartbeats 4000000 in
set_option maxRecDepth 100000 in
theorem kX1_add (l : Launch) (D : va_G) (y : Nat → ClassId) (a t : Nat → Nat) (hI : AI a 37) (sz : Nat) (σ τ : St) (p1 : Int32) (p2 : Int32) (p3 : Int32) (hm : mX1_add σ p1 p2 p3 = some τ) : Met l yX1_add zX1_add { frames := 1, cells := 0, slots := 0, locals := 24 } (va_Pc [.ref (a 1), .int p1, .int p2, .int p3] (preW (wC y a) a 37 D y t σ sz)) (va_Qv (fun u => u = τ) (posW (wC y a) D) (AC a 37 sz)) 0 0 (AC a 37 sz) := by
  refine Met.ofW (cc := cX1_add) (maxL := 8) (ret := none) (by decide) rfl ?_
  intro p e s m args below meth c s₁ B hml hv
  obtain ⟨rfl, hsz, hP, hK, hF⟩ := hv
  have hx := B.exec
  have hb := B.bytes
  have hr := B.returns
  have hts := atoms_spec (ws := zX1_add) B.pre
  have hown : s.vm.findClass RX1 = some m.cls := findClass_of_methodNamed B.named
  have hlocks := B.notSynchronized
  subst hsz
  have l_f34 := hts _ (List.mem_cons_of_mem _ aF_X1_34)
  have l_f9 := hts _ (List.mem_cons_of_mem _ aF_X1_9)
  have l_f15 := hts _ (List.mem_cons_of_mem _ aF_X1_15)
  have l_f18 := hts _ (List.mem_cons_of_mem _ aF_X1_18)
  have l_f21 := hts _ (List.mem_cons_of_mem _ aF_X1_21)
  have l_f24 := hts _ (List.mem_cons_of_mem _ aF_X1_24)
  have l_c68 := hts _ (List.mem_cons_of_mem _ aK_X1_68)
  have l_ml72 := hts _ (List.mem_cons_of_mem _ aM_X1_72)
  have l_msmin := hts _ (List.mem_cons_of_mem _ aT_J9_min_7cf53)
  have l_mi := hts _ (List.mem_cons_of_mem _ aN_J9)
  have l_mcmin := hts _ (List.mem_cons_of_mem _ aC_J9_min_7cf53)
  have l_f27 := hts _ (List.mem_cons_of_mem _ aF_X1_27)
  have l_f30 := hts _ (List.mem_cons_of_mem _ aF_X1_30)
  have h_X1 : ∀ w ∈ wsX10, w.before _ s = true := fun w hw => hts w (List.mem_cons_of_mem _ (hwX1 w hw))
  have hS : va_S (AC a 37 s.heap.size) s.heap s.heap [] := va_S.rf
  have hl := lv_entry ([.ref (a 1), .int p1, .int p2, .int p3]) (n := 8) (Nat.le_of_ble_eq_true rfl)
  rw [lg_entry_eq]
  generalize (lg_sl ([.ref (a 1), .int p1, .int p2, .int p3]) ++ List.replicate (8 - (lg_sl ([.ref (a 1), .int p1, .int p2, .int p3])).length) Slot.unset).toArray = ls at hl ⊢
  have hl : lv_has ls 8 [(0, .ref (a 1)), (1, .int p1), (2, .int p2), (3, .int p3)] := hl
  have L_239 : ∀ (s1 : St) (H : Heap) (locs : List Loc) (ls : Array Slot), va_P D vwCl (wC y a s1) H → va_S (AC a 37 s.heap.size) s.heap H locs → lv_has ls 8 [(0, .ref (a 1))] → mX1_add_239 s1 = some τ → W p l e (headSpec zX1_add ({ frames := 1, cells := 0, slots := 0, locals := 24 })).room s m ([.ref (a 1), .int p1, .int p2, .int p3] : List Value).toArray below meth c H locs 0 0 (MQ below (va_Qv (fun u => u = τ) (posW (wC y a) D) (AC a 37 s.heap.size)) ([.ref (a 1), .int p1, .int p2, .int p3] : List Value).toArray s 0 0 (AC a 37 s.heap.size)) (F0 m 239 ls []) := by
    intro s1 H locs ls hP hS hl hm
    unfold mX1_add_239 at hm
    refine lv_aload_n hx hb dX1_add_239 rfl (lv_at hl 0 rfl) ?_
    refine lv_dup hx hb dX1_add_240 rfl ?_
    refine gfX1_known hx hb h_X1 hown hK hP l_f34 dX1_add_241 ?_
    refine lv_iconst (v := 1) hx hb dX1_add_244 (by decide) ?_
    refine lv_iadd hx hb dX1_add_245 ?_
    refine pfX1_known hx hb h_X1 hown hK hP hI AC_in hS l_f34 dX1_add_246 (fun H locs hP hS => ?_)
    generalize es2 : su s1 0 (fun _ => (s1.1 0 0) + 1) = s2 at hP
    have hm := bnd_x es2.symm hm
    exact W.vret hx hb hr (fun T hT hW => ⟨⟨s2, rfl, Option.some.inj hm, by rw [posW, hT]; exact hP⟩, hS.F hT⟩) hS.2.2 dX1_add_249
  have L_183 : ∀ (n : Nat) (s20 : St) (v14 : Int32) (v15 : Int32) (v16 : Int32) (v17 : Int32) (v18 : Int32) (v19 : Int32) (H : Heap) (locs : List Loc) (ls : Array Slot), va_P D vwCl (wC y a s20) H → va_S (AC a 37 s.heap.size) s.heap H locs → lv_has ls 8 [(0, .ref (a 1)), (1, .int v14), (2, .int v15), (3, .int v16), (4, .int v17), (5, .int v18), (7, .int v19)] → mX1_add_183 n s20 v14 v15 v16 v17 v18 v19 = some τ → W p l e (headSpec zX1_add ({ frames := 1, cells := 0, slots := 0, locals := 24 })).room s m ([.ref (a 1), .int p1, .int p2, .int p3] : List Value).toArray below meth c H locs 0 0 (MQ below (va_Qv (fun u => u = τ) (posW (wC y a) D) (AC a 37 s.heap.size)) ([.ref (a 1), .int p1, .int p2, .int p3] : List Value).toArray s 0 0 (AC a 37 s.heap.size)) (F0 m 183 ls []) := by
    intro n
    induction n with
    | zero =>
      intro s20 v14 v15 v16 v17 v18 v19 H locs ls hP hS hl hm
      exact absurd (show (none : Option St) = some τ from hm) (by intro h; cases h)
    | succ n ih183 =>
      obtain ⟨kh183, ekh183⟩ : ∃ z, z = mX1_add_183 n := ⟨_, rfl⟩
      have ih183 : ∀ (s20 : St) (v14 : Int32) (v15 : Int32) (v16 : Int32) (v17 : Int32) (v18 : Int32) (v19 : Int32) (H : Heap) (locs : List Loc) (ls : Array Slot), va_P D vwCl (wC y a s20) H → va_S (AC a 37 s.heap.size) s.heap H locs → lv_has ls 8 [(0, .ref (a 1)), (1, .int v14), (2, .int v15), (3, .int v16), (4, .int v17), (5, .int v18), (7, .int v19)] → kh183 s20 v14 v15 v16 v17 v18 v19 = some τ → W p l e (headSpec zX1_add ({ frames := 1, cells := 0, slots := 0, locals := 24 })).room s m ([.ref (a 1), .int p1, .int p2, .int p3] : List Value).toArray below meth c H locs 0 0 (MQ below (va_Qv (fun u => u = τ) (posW (wC y a) D) (AC a 37 s.heap.size)) ([.ref (a 1), .int p1, .int p2, .int p3] : List Value).toArray s 0 0 (AC a 37 s.heap.size)) (F0 m 183 ls []) := by rw [ekh183]; exact ih183
      have L_232 : ∀ (s11 : St) (v3 : Int32) (v4 : Int32) (v5 : Int32) (v6 : Int32) (v7 : Int32) (v8 : Int32) (v9 : Int64) (v10 : Int32) (H : Heap) (locs : List Loc) (ls : Array Slot), va_P D vwCl (wC y a s11) H → va_S (AC a 37 s.heap.size) s.heap H locs → lv_has ls 8 [(0, .ref (a 1)), (1, .int v3), (2, .int v4), (3, .int v5), (4, .int v6), (5, .int v7), (7, .int v8)] → mX1_add_232 kh183 s11 v3 v4 v5 v6 v7 v8 v9 v10 = some τ → W p l e (headSpec zX1_add ({ frames := 1, cells := 0, slots := 0, locals := 24 })).room s m ([.ref (a 1), .int p1, .int p2, .int p3] : List Value).toArray below meth c H locs 0 0 (MQ below (va_Qv (fun u => u = τ) (posW (wC y a) D) (AC a 37 s.heap.size)) ([.ref (a 1), .int p1, .int p2, .int p3] : List Value).toArray s 0 0 (AC a 37 s.heap.size)) (F0 m 232 ls [.long v9, .int v10, .ref (a 14)]) := by
        intro s11 v3 v4 v5 v6 v7 v8 v9 v10 H locs ls hP hS hl hm
        unfold mX1_add_232 at hm
        obtain ⟨hi, hm⟩ := ok_I hm
        refine stC_14 hx hb hK hP hI AC_in hS hi dX1_add_232 (fun H locs hP hS => ?_)
        generalize es12 : sl s11 (vp_updL s11.2 v10.toNatClampNeg v9) = s12 at hP
        have hm := bnd_x es12.symm hm
        obtain ⟨x13, ex13⟩ : ∃ z : Int32, z = v8 + 1 := ⟨_, rfl⟩
        have hm := bnd_x ex13 hm
        refine lv_iinc (v := x13) (lv' := [(7, .int x13), (0, .ref (a 1)), (1, .int v3), (2, .int v4), (3, .int v5), (4, .int v6), (5, .int v7)]) hx hb dX1_add_233 hl (k := 6) rfl (by rw [ex13]; rfl) (by decide) rfl (fun ls hl => ?_)
        refine lv_goto (tgt := 183) hx hb dX1_add_236 (by decide) ?_
        exact ih183 s12 v3 v4 v5 v6 v7 x13 _ _ _ hP hS (lv_sub hl [1, 2, 3, 4, 5, 6, 0] rfl) hm
      intro s20 v14 v15 v16 v17 v18 v19 H locs ls hP hS hl hm
      have hm : bX1_add_183 (mX1_add_183 n) s20 v14 v15 v16 v17 v18 v19 = some τ := hm
      rw [← ekh183] at hm
      unfold bX1_add_183 at hm
      refine lv_iload hx hb dX1_add_183 (lv_at hl 6 rfl) ?_
      refine lv_iconst (v := 4) hx hb dX1_add_185 (by decide) ?_
      refine lv_icmp_ge (tgt := 239) hx hb dX1_add_186 (by decide) (fun c21 => ?_) (fun c21 => ?_)
      · have hm := (if_pos c21).symm.trans hm
        exact L_239 s20 _ _ _ hP hS (lv_sub hl [0] rfl) hm
      · have hm := (if_neg c21).symm.trans hm
        refine lv_aload_n hx hb dX1_add_189 rfl (lv_at hl 0 rfl) ?_
        refine gfX1_truths hx hb h_X1 hown hK hP l_f30 dX1_add_190 ?_
        refine lv_iload hx hb dX1_add_193 (lv_at hl 4 rfl) ?_
        refine lv_iconst (v := 4) hx hb dX1_add_195 (by decide) ?_
        refine lv_imul hx hb dX1_add_196 ?_
        refine lv_iload hx hb dX1_add_197 (lv_at hl 6 rfl) ?_
        refine lv_iadd hx hb dX1_add_199 ?_
        refine lv_iload_n hx hb dX1_add_200 rfl (lv_at hl 1 rfl) ?_
        refine lv_if_ne (tgt := 213) hx hb dX1_add_201 (by decide) (fun c22 => ?_) (fun c22 => ?_)
        · have hm := (if_neg c22).symm.trans hm
          refine lv_iload_n hx hb dX1_add_213 rfl (lv_at hl 1 rfl) ?_
          refine lv_aload_n hx hb dX1_add_214 rfl (lv_at hl 0 rfl) ?_
          refine lv_iload hx hb dX1_add_215 (lv_at hl 5 rfl) ?_
          refine lv_iload hx hb dX1_add_217 (lv_at hl 6 rfl) ?_
          obtain ⟨r23, h24, hm⟩ := ok_bind hm
          refine calV_l (As := [.int v18, .int v19]) (rest := [.int v14, .int ((v17 * 4) + v19), .ref (a 14)]) ⟨hx, hb, hml, hown, hts⟩ (kX1_truth l D y a t hI _ s20 v18 v19 r23 h24) (cwV 2 hts (gAV aM_X1_38 aI_X1_truth aS_X1_truth aN_X1 aC_X1_truth) rfl rfl rfl eX1_truth ⟨Nat.le_of_ble_eq_true rfl, Nat.le_of_ble_eq_true rfl⟩) (preV_W (ci := 1) (q := (RX1, TX1, 8)) hK hP hF hS rfl (wC_1 y a s20)) rfl hl.1 rfl (Nat.le_of_ble_eq_true rfl) dX1_add_219 ⟨Nat.zero_le _, Nat.zero_le _⟩ hS (AC_le hS.1) (fun H locs hP hS hk1 => ?_)
          refine lv_aload_n hx hb dX1_add_222 rfl (lv_at hl 0 rfl) ?_
          refine lv_iload_n hx hb dX1_add_223 rfl (lv_at hl 3 rfl) ?_
          refine lv_iload hx hb dX1_add_224 (lv_at hl 6 rfl) ?_
          obtain ⟨r25, h26, hm⟩ := ok_bind hm
          refine calV_l (As := [.int v16, .int v19]) (rest := [.long r23, .int v14, .int ((v17 * 4) + v19), .ref (a 14)]) ⟨hx, hb, hml, hown, hts⟩ (kX1_truth l D y a t hI _ s20 v16 v19 r25 h26) (cwV 2 hts (gAV aM_X1_38 aI_X1_truth aS_X1_truth aN_X1 aC_X1_truth) rfl rfl rfl eX1_truth ⟨Nat.le_of_ble_eq_true rfl, Nat.le_of_ble_eq_true rfl⟩) (preV_W (ci := 1) (q := (RX1, TX1, 8)) hK hP hF hS rfl (wC_1 y a s20)) rfl hl.1 rfl (Nat.le_of_ble_eq_true rfl) dX1_add_226 ⟨Nat.zero_le _, Nat.zero_le _⟩ hS (AC_le hS.1) (fun H locs hP hS hk1 => ?_)
          obtain ⟨r27, h28, hm⟩ := ok_bind hm
          refine calS_l (As := [.int v14, .long r23, .long r25]) (rest := [.int ((v17 * 4) + v19), .ref (a 14)]) ⟨hx, hb, hml, hown, hts⟩ (kX1_truthOfParts l D y a t hI _ s20 v14 r23 r25 r27 h28) (va_cwS 3 hts (gAS aM_X1_91 aT_X1_truthOfParts aN_X1 aC_X1_truthOfParts) rfl rfl rfl eX1_truthOfParts ⟨Nat.le_of_ble_eq_true rfl, Nat.le_of_ble_eq_true rfl⟩) (preS_W hK hP hF hS) rfl hl.1 rfl (Nat.le_of_ble_eq_true rfl) dX1_add_229 ⟨Nat.zero_le _, Nat.zero_le _⟩ hS (AC_le hS.1) (fun H locs hP hS hk1 => ?_)
          exact L_232 s20 v14 v15 v16 v17 v18 v19 r27 ((v17 * 4) + v19) _ _ _ hP hS (lv_sub hl [0, 1, 2, 3, 4, 5, 6] rfl) hm
        · have hm := (if_pos c22).symm.trans hm
          refine lv_iload_n hx hb dX1_add_204 rfl (lv_at hl 2 rfl) ?_
          refine lv_iload hx hb dX1_add_205 (lv_at hl 6 rfl) ?_
          obtain ⟨r29, h30, hm⟩ := ok_bind hm
          refine calS_l (As := [.int v15, .int v19]) (rest := [.int ((v17 * 4) + v19), .ref (a 14)]) ⟨hx, hb, hml, hown, hts⟩ (kX1_truthOfLetter l D y a t hI _ s20 v15 v19 r29 h30) (va_cwS 2 hts (gAS aM_X1_88 aT_X1_truthOfLetter aN_X1 aC_X1_truthOfLetter) rfl rfl rfl eX1_truthOfLetter ⟨Nat.le_of_ble_eq_true rfl, Nat.le_of_ble_eq_true rfl⟩) (preS_W hK hP hF hS) rfl hl.1 rfl (Nat.le_of_ble_eq_true rfl) dX1_add_207 ⟨Nat.zero_le _, Nat.zero_le _⟩ hS (AC_le hS.1) (fun H locs hP hS hk1 => ?_)
          refine lv_goto (tgt := 232) hx hb dX1_add_210 (by decide) ?_
          exact L_232 s20 v14 v15 v16 v17 v18 v19 r29 ((v17 * 4) + v19) _ _ _ hP hS (lv_sub hl [0, 1, 2, 3, 4, 5, 6] rfl) hm
  have L_148 : ∀ (s38 : St) (v31 : Int32) (v32 : Int32) (v33 : Int32) (v34 : Int32) (v35 : Int32) (v36 : Int32) (v37 : Int32) (H : Heap) (locs : List Loc) (ls : Array Slot), va_P D vwCl (wC y a s38) H → va_S (AC a 37 s.heap.size) s.heap H locs → lv_has ls 8 [(0, .ref (a 1)), (1, .int v31), (2, .int v32), (3, .int v33), (4, .int v34), (5, .int v35)] → mX1_add_148 s38 v31 v32 v33 v34 v35 v36 v37 = some τ → W p l e (headSpec zX1_add ({ frames := 1, cells := 0, slots := 0, locals := 24 })).room s m ([.ref (a 1), .int p1, .int p2, .int p3] : List Value).toArray below meth c H locs 0 0 (MQ below (va_Qv (fun u => u = τ) (posW (wC y a) D) (AC a 37 s.heap.size)) ([.ref (a 1), .int p1, .int p2, .int p3] : List Value).toArray s 0 0 (AC a 37 s.heap.size)) (F0 m 148 ls [.int v36, .int v37]) := by
    intro s38 v31 v32 v33 v34 v35 v36 v37 H locs ls hP hS hl hm
    unfold mX1_add_148 at hm
    refine lv_iadd hx hb dX1_add_148 ?_
    refine lv_topi (fun x39 ex39 => ?_)
    have hm := bnd_x ex39 hm
    refine lv_istore (lv' := [(6, .int x39), (0, .ref (a 1)), (1, .int v31), (2, .int v32), (3, .int v33), (4, .int v34), (5, .int v35)]) hx hb dX1_add_149 hl (by decide) rfl (fun ls hl => ?_)
    refine lv_aload_n hx hb dX1_add_151 rfl (lv_at hl 1 rfl) ?_
    refine gfX1_widths hx hb h_X1 hown hK hP l_f27 dX1_add_152 ?_
    refine lv_iload hx hb dX1_add_155 (lv_at hl 5 rfl) ?_
    refine lv_ldc (v := 1000000) hx hb hown l_c68 dX1_add_157 ?_
    refine lv_iconst (v := 1) hx hb dX1_add_159 (by decide) ?_
    refine lv_aload_n hx hb dX1_add_160 rfl (lv_at hl 1 rfl) ?_
    refine lv_iload hx hb dX1_add_161 (lv_at hl 6 rfl) ?_
    obtain ⟨r40, h41, hm⟩ := ok_bind hm
    refine calV_i (As := [.int v35]) (rest := [.int 1, .int 1000000, .int v34, .ref (a 13)]) ⟨hx, hb, hml, hown, hts⟩ (kX1_width l D y a t hI _ s38 v35 r40 h41) (cwV 1 hts (gAV aM_X1_85 aI_X1_width aS_X1_width aN_X1 aC_X1_width) rfl rfl rfl eX1_width ⟨Nat.le_of_ble_eq_true rfl, Nat.le_of_ble_eq_true rfl⟩) (preV_W (ci := 1) (q := (RX1, TX1, 8)) hK hP hF hS rfl (wC_1 y a s38)) rfl hl.1 rfl (Nat.le_of_ble_eq_true rfl) dX1_add_163 ⟨Nat.zero_le _, Nat.zero_le _⟩ hS (AC_le hS.1) (fun H locs hP hS hk1 => ?_)
    refine lv_iadd hx hb dX1_add_166 ?_
    refine lv_aload_n hx hb dX1_add_167 rfl (lv_at hl 1 rfl) ?_
    refine lv_iload_n hx hb dX1_add_168 rfl (lv_at hl 4 rfl) ?_
    obtain ⟨r42, h43, hm⟩ := ok_bind hm
    refine calV_i (As := [.int v33]) (rest := [.int (1 + r40), .int 1000000, .int v34, .ref (a 13)]) ⟨hx, hb, hml, hown, hts⟩ (kX1_width l D y a t hI _ s38 v33 r42 h43) (cwV 1 hts (gAV aM_X1_85 aI_X1_width aS_X1_width aN_X1 aC_X1_width) rfl rfl rfl eX1_width ⟨Nat.le_of_ble_eq_true rfl, Nat.le_of_ble_eq_true rfl⟩) (preV_W (ci := 1) (q := (RX1, TX1, 8)) hK hP hF hS rfl (wC_1 y a s38)) rfl hl.1 rfl (Nat.le_of_ble_eq_true rfl) dX1_add_169 ⟨Nat.zero_le _, Nat.zero_le _⟩ hS (AC_le hS.1) (fun H locs hP hS hk1 => ?_)
    refine lv_iadd hx hb dX1_add_172 ?_
    refine lv_iload hx hb dX1_add_173 (lv_at hl 0 rfl) ?_
    refine lv_iadd hx hb dX1_add_175 ?_
    refine va_mmin hx hb (hml.trans hl.1.symm) hown l_ml72 l_msmin l_mi l_mcmin (Nat.le_of_ble_eq_true rfl) (Nat.le_of_ble_eq_true rfl) (Nat.zero_le _) (Nat.zero_le _) dX1_add_176 ?_
    obtain ⟨hi, hm⟩ := ok_I hm
    refine stC_13 hx hb hK hP hI AC_in hS hi dX1_add_179 (fun H locs hP hS => ?_)
    generalize es44 : su s38 17 (upd (s38.1 17) v34.toNatClampNeg (if (((1 + r40) + r42) + x39) < (1000000 : Int32) then ((1 + r40) + r42) + x39 else 1000000)) = s44 at hP
    have hm := bnd_x es44.symm hm
    refine lv_iconst (v := 0) hx hb dX1_add_180 (by decide) ?_
    refine lv_istore (lv' := [(7, .int 0), (6, .int x39), (0, .ref (a 1)), (1, .int v31), (2, .int v32), (3, .int v33), (4, .int v34), (5, .int v35)]) hx hb dX1_add_181 hl (by decide) rfl (fun ls hl => ?_)
    exact L_183 NF s44 v31 v32 v33 v34 v35 0 _ _ _ hP hS (lv_sub hl [2, 3, 4, 5, 6, 7, 0] rfl) hm
  have L_130 : ∀ (s51 : St) (v45 : Int32) (v46 : Int32) (v47 : Int32) (v48 : Int32) (v49 : Int32) (v50 : Int32) (H : Heap) (locs : List Loc) (ls : Array Slot), va_P D vwCl (wC y a s51) H → va_S (AC a 37 s.heap.size) s.heap H locs → lv_has ls 8 [(0, .ref (a 1)), (1, .int v45), (2, .int v46), (3, .int v47), (4, .int v48), (5, .int v49)] → mX1_add_130 s51 v45 v46 v47 v48 v49 v50 = some τ → W p l e (headSpec zX1_add ({ frames := 1, cells := 0, slots := 0, locals := 24 })).room s m ([.ref (a 1), .int p1, .int p2, .int p3] : List Value).toArray below meth c H locs 0 0 (MQ below (va_Qv (fun u => u = τ) (posW (wC y a) D) (AC a 37 s.heap.size)) ([.ref (a 1), .int p1, .int p2, .int p3] : List Value).toArray s 0 0 (AC a 37 s.heap.size)) (F0 m 130 ls [.int v50]) := by
    intro s51 v45 v46 v47 v48 v49 v50 H locs ls hP hS hl hm
    unfold mX1_add_130 at hm
    refine lv_iload_n hx hb dX1_add_130 rfl (lv_at hl 1 rfl) ?_
    refine lv_aload_n hx hb dX1_add_131 rfl (lv_at hl 0 rfl) ?_
    refine lv_iload_n hx hb dX1_add_132 rfl (lv_at hl 3 rfl) ?_
    obtain ⟨r52, h53, hm⟩ := ok_bind hm
    refine calV_i (As := [.int v47]) (rest := [.int v45, .int v50]) ⟨hx, hb, hml, hown, hts⟩ (kX1_sort l D y a t hI _ s51 v47 r52 h53) (cwV 1 hts (gAV aM_X1_78 aI_X1_sort aS_X1_sort aN_X1 aC_X1_sort) rfl rfl rfl eX1_sort ⟨Nat.le_of_ble_eq_true rfl, Nat.le_of_ble_eq_true rfl⟩) (preV_W (ci := 1) (q := (RX1, TX1, 8)) hK hP hF hS rfl (wC_1 y a s51)) rfl hl.1 rfl (Nat.le_of_ble_eq_true rfl) dX1_add_133 ⟨Nat.zero_le _, Nat.zero_le _⟩ hS (AC_le hS.1) (fun H locs hP hS hk1 => ?_)
    refine lv_iconst (v := 1) hx hb dX1_add_136 (by decide) ?_
    obtain ⟨r54, h55, hm⟩ := ok_bind hm
    refine calS_i (As := [.int v45, .int r52, .int 1]) (rest := [.int v50]) ⟨hx, hb, hml, hown, hts⟩ (kX1_needsBrackets l D y a t hI _ s51 v45 r52 1 r54 h55) (va_cwS 3 hts (gAS aM_X1_81 aT_X1_needsBrackets aN_X1 aC_X1_needsBrackets) rfl rfl rfl eX1_needsBrackets ⟨Nat.le_of_ble_eq_true rfl, Nat.le_of_ble_eq_true rfl⟩) (preS_W hK hP hF hS) rfl hl.1 rfl (Nat.le_of_ble_eq_true rfl) dX1_add_137 ⟨Nat.zero_le _, Nat.zero_le _⟩ hS (AC_le hS.1) (fun H locs hP hS hk1 => ?_)
    refine lv_if_eq (tgt := 147) hx hb dX1_add_140 (by decide) (fun c56 => ?_) (fun c56 => ?_)
    · have hm := (if_pos c56).symm.trans hm
      refine lv_iconst (v := 0) hx hb dX1_add_147 (by decide) ?_
      exact L_148 s51 v45 v46 v47 v48 v49 0 v50 _ _ _ hP hS (lv_sub hl [0, 1, 2, 3, 4, 5] rfl) hm
    · have hm := (if_neg c56).symm.trans hm
      refine lv_iconst (v := 2) hx hb dX1_add_143 (by decide) ?_
      refine lv_goto (tgt := 148) hx hb dX1_add_144 (by decide) ?_
      exact L_148 s51 v45 v46 v47 v48 v49 2 v50 _ _ _ hP hS (lv_sub hl [0, 1, 2, 3, 4, 5] rfl) hm
  have L_84 : ∀ (s64 : St) (v57 : Int32) (v58 : Int32) (v59 : Int32) (v60 : Int32) (v61 : Int32) (v62 : Int32) (v63 : Int32) (H : Heap) (locs : List Loc) (ls : Array Slot), va_P D vwCl (wC y a s64) H → va_S (AC a 37 s.heap.size) s.heap H locs → lv_has ls 8 [(0, .ref (a 1)), (1, .int v57), (2, .int v58), (3, .int v59), (4, .int v60), (5, .int v61)] → mX1_add_84 s64 v57 v58 v59 v60 v61 v62 v63 = some τ → W p l e (headSpec zX1_add ({ frames := 1, cells := 0, slots := 0, locals := 24 })).room s m ([.ref (a 1), .int p1, .int p2, .int p3] : List Value).toArray below meth c H locs 0 0 (MQ below (va_Qv (fun u => u = τ) (posW (wC y a) D) (AC a 37 s.heap.size)) ([.ref (a 1), .int p1, .int p2, .int p3] : List Value).toArray s 0 0 (AC a 37 s.heap.size)) (F0 m 84 ls [.int v62, .int v63, .ref (a 11)]) := by
    intro s64 v57 v58 v59 v60 v61 v62 v63 H locs ls hP hS hl hm
    unfold mX1_add_84 at hm
    obtain ⟨hi, hm⟩ := ok_I hm
    refine stC_11 hx hb hK hP hI AC_in hS hi dX1_add_84 (fun H locs hP hS => ?_)
    generalize es65 : su s64 15 (upd (s64.1 15) v63.toNatClampNeg v62) = s65 at hP
    have hm := bnd_x es65.symm hm
    refine lv_aload_n hx hb dX1_add_85 rfl (lv_at hl 0 rfl) ?_
    refine gfX1_sizes hx hb h_X1 hown hK hP l_f24 dX1_add_86 ?_
    refine lv_iload hx hb dX1_add_89 (lv_at hl 4 rfl) ?_
    refine lv_ldc (v := 1000000) hx hb hown l_c68 dX1_add_91 ?_
    refine lv_iconst (v := 1) hx hb dX1_add_93 (by decide) ?_
    refine lv_aload_n hx hb dX1_add_94 rfl (lv_at hl 0 rfl) ?_
    refine lv_iload hx hb dX1_add_95 (lv_at hl 5 rfl) ?_
    obtain ⟨r66, h67, hm⟩ := ok_bind hm
    refine calV_i (As := [.int v61]) (rest := [.int 1, .int 1000000, .int v60, .ref (a 12)]) ⟨hx, hb, hml, hown, hts⟩ (kX1_size l D y a t hI _ s65 v61 r66 h67) (cwV 1 hts (gAV aM_X1_69 aI_X1_size aS_X1_size aN_X1 aC_X1_size) rfl rfl rfl eX1_size ⟨Nat.le_of_ble_eq_true rfl, Nat.le_of_ble_eq_true rfl⟩) (preV_W (ci := 1) (q := (RX1, TX1, 8)) hK hP hF hS rfl (wC_1 y a s65)) rfl hl.1 rfl (Nat.le_of_ble_eq_true rfl) dX1_add_97 ⟨Nat.zero_le _, Nat.zero_le _⟩ hS (AC_le hS.1) (fun H locs hP hS hk1 => ?_)
    refine lv_iadd hx hb dX1_add_100 ?_
    refine lv_aload_n hx hb dX1_add_101 rfl (lv_at hl 0 rfl) ?_
    refine lv_iload_n hx hb dX1_add_102 rfl (lv_at hl 3 rfl) ?_
    obtain ⟨r68, h69, hm⟩ := ok_bind hm
    refine calV_i (As := [.int v59]) (rest := [.int (1 + r66), .int 1000000, .int v60, .ref (a 12)]) ⟨hx, hb, hml, hown, hts⟩ (kX1_size l D y a t hI _ s65 v59 r68 h69) (cwV 1 hts (gAV aM_X1_69 aI_X1_size aS_X1_size aN_X1 aC_X1_size) rfl rfl rfl eX1_size ⟨Nat.le_of_ble_eq_true rfl, Nat.le_of_ble_eq_true rfl⟩) (preV_W (ci := 1) (q := (RX1, TX1, 8)) hK hP hF hS rfl (wC_1 y a s65)) rfl hl.1 rfl (Nat.le_of_ble_eq_true rfl) dX1_add_103 ⟨Nat.zero_le _, Nat.zero_le _⟩ hS (AC_le hS.1) (fun H locs hP hS hk1 => ?_)
    refine lv_iadd hx hb dX1_add_106 ?_
    refine va_mmin hx hb (hml.trans hl.1.symm) hown l_ml72 l_msmin l_mi l_mcmin (Nat.le_of_ble_eq_true rfl) (Nat.le_of_ble_eq_true rfl) (Nat.zero_le _) (Nat.zero_le _) dX1_add_107 ?_
    obtain ⟨hi, hm⟩ := ok_I hm
    refine stC_12 hx hb hK hP hI AC_in hS hi dX1_add_110 (fun H locs hP hS => ?_)
    generalize es70 : su s65 16 (upd (s65.1 16) v60.toNatClampNeg (if ((1 + r66) + r68) < (1000000 : Int32) then (1 + r66) + r68 else 1000000)) = s70 at hP
    have hm := bnd_x es70.symm hm
    refine lv_iload_n hx hb dX1_add_111 rfl (lv_at hl 1 rfl) ?_
    refine lv_aload_n hx hb dX1_add_112 rfl (lv_at hl 0 rfl) ?_
    refine lv_iload hx hb dX1_add_113 (lv_at hl 5 rfl) ?_
    obtain ⟨r71, h72, hm⟩ := ok_bind hm
    refine calV_i (As := [.int v61]) (rest := [.int v57]) ⟨hx, hb, hml, hown, hts⟩ (kX1_sort l D y a t hI _ s70 v61 r71 h72) (cwV 1 hts (gAV aM_X1_78 aI_X1_sort aS_X1_sort aN_X1 aC_X1_sort) rfl rfl rfl eX1_sort ⟨Nat.le_of_ble_eq_true rfl, Nat.le_of_ble_eq_true rfl⟩) (preV_W (ci := 1) (q := (RX1, TX1, 8)) hK hP hF hS rfl (wC_1 y a s70)) rfl hl.1 rfl (Nat.le_of_ble_eq_true rfl) dX1_add_115 ⟨Nat.zero_le _, Nat.zero_le _⟩ hS (AC_le hS.1) (fun H locs hP hS hk1 => ?_)
    refine lv_iconst (v := 0) hx hb dX1_add_118 (by decide) ?_
    obtain ⟨r73, h74, hm⟩ := ok_bind hm
    refine calS_i (As := [.int v57, .int r71, .int 0]) (rest := []) ⟨hx, hb, hml, hown, hts⟩ (kX1_needsBrackets l D y a t hI _ s70 v57 r71 0 r73 h74) (va_cwS 3 hts (gAS aM_X1_81 aT_X1_needsBrackets aN_X1 aC_X1_needsBrackets) rfl rfl rfl eX1_needsBrackets ⟨Nat.le_of_ble_eq_true rfl, Nat.le_of_ble_eq_true rfl⟩) (preS_W hK hP hF hS) rfl hl.1 rfl (Nat.le_of_ble_eq_true rfl) dX1_add_119 ⟨Nat.zero_le _, Nat.zero_le _⟩ hS (AC_le hS.1) (fun H locs hP hS hk1 => ?_)
    refine lv_if_eq (tgt := 129) hx hb dX1_add_122 (by decide) (fun c75 => ?_) (fun c75 => ?_)
    · have hm := (if_pos c75).symm.trans hm
      refine lv_iconst (v := 0) hx hb dX1_add_129 (by decide) ?_
      exact L_130 s70 v57 v58 v59 v60 v61 0 _ _ _ hP hS (lv_sub hl [0, 1, 2, 3, 4, 5] rfl) hm
    · have hm := (if_neg c75).symm.trans hm
      refine lv_iconst (v := 2) hx hb dX1_add_125 (by decide) ?_
      refine lv_goto (tgt := 130) hx hb dX1_add_126 (by decide) ?_
      exact L_130 s70 v57 v58 v59 v60 v61 2 _ _ _ hP hS (lv_sub hl [0, 1, 2, 3, 4, 5] rfl) hm
  have L_30 : ∀ (s81 : St) (v76 : Int32) (v77 : Int32) (v78 : Int32) (v79 : Int32) (v80 : Int32) (H : Heap) (locs : List Loc) (ls : Array Slot), va_P D vwCl (wC y a s81) H → va_S (AC a 37 s.heap.size) s.heap H locs → lv_has ls 8 [(0, .ref (a 1)), (1, .int v76), (2, .int v77), (3, .int v78), (4, .int v79)] → mX1_add_30 s81 v76 v77 v78 v79 v80 = some τ → W p l e (headSpec zX1_add ({ frames := 1, cells := 0, slots := 0, locals := 24 })).room s m ([.ref (a 1), .int p1, .int p2, .int p3] : List Value).toArray below meth c H locs 0 0 (MQ below (va_Qv (fun u => u = τ) (posW (wC y a) D) (AC a 37 s.heap.size)) ([.ref (a 1), .int p1, .int p2, .int p3] : List Value).toArray s 0 0 (AC a 37 s.heap.size)) (F0 m 30 ls [.int v80]) := by
    intro s81 v76 v77 v78 v79 v80 H locs ls hP hS hl hm
    unfold mX1_add_30 at hm
    refine lv_istore (lv' := [(5, .int v80), (0, .ref (a 1)), (1, .int v76), (2, .int v77), (3, .int v78), (4, .int v79)]) hx hb dX1_add_30 hl (by decide) rfl (fun ls hl => ?_)
    refine lv_aload_n hx hb dX1_add_32 rfl (lv_at hl 1 rfl) ?_
    refine gfX1_sorts hx hb h_X1 hown hK hP l_f9 dX1_add_33 ?_
    refine lv_iload hx hb dX1_add_36 (lv_at hl 5 rfl) ?_
    refine lv_iload_n hx hb dX1_add_38 rfl (lv_at hl 2 rfl) ?_
    obtain ⟨hi, hm⟩ := ok_I hm
    refine stC_8 hx hb hK hP hI AC_in hS hi dX1_add_39 (fun H locs hP hS => ?_)
    generalize es82 : su s81 12 (upd (s81.1 12) v79.toNatClampNeg v76) = s82 at hP
    have hm := bnd_x es82.symm hm
    refine lv_aload_n hx hb dX1_add_40 rfl (lv_at hl 1 rfl) ?_
    refine gfX1_firsts hx hb h_X1 hown hK hP l_f15 dX1_add_41 ?_
    refine lv_iload hx hb dX1_add_44 (lv_at hl 5 rfl) ?_
    refine lv_iload_n hx hb dX1_add_46 rfl (lv_at hl 3 rfl) ?_
    obtain ⟨hi, hm⟩ := ok_I hm
    refine stC_9 hx hb hK hP hI AC_in hS hi dX1_add_47 (fun H locs hP hS => ?_)
    generalize es83 : su s82 13 (upd (s82.1 13) v79.toNatClampNeg v77) = s83 at hP
    have hm := bnd_x es83.symm hm
    refine lv_aload_n hx hb dX1_add_48 rfl (lv_at hl 1 rfl) ?_
    refine gfX1_seconds hx hb h_X1 hown hK hP l_f18 dX1_add_49 ?_
    refine lv_iload hx hb dX1_add_52 (lv_at hl 5 rfl) ?_
    refine lv_iload_n hx hb dX1_add_54 rfl (lv_at hl 4 rfl) ?_
    obtain ⟨hi, hm⟩ := ok_I hm
    refine stC_10 hx hb hK hP hI AC_in hS hi dX1_add_55 (fun H locs hP hS => ?_)
    generalize es84 : su s83 14 (upd (s83.1 14) v79.toNatClampNeg v78) = s84 at hP
    have hm := bnd_x es84.symm hm
    refine lv_aload_n hx hb dX1_add_56 rfl (lv_at hl 1 rfl) ?_
    refine gfX1_letterSets hx hb h_X1 hown hK hP l_f21 dX1_add_57 ?_
    refine lv_iload hx hb dX1_add_60 (lv_at hl 5 rfl) ?_
    refine lv_iload_n hx hb dX1_add_62 rfl (lv_at hl 2 rfl) ?_
    refine lv_if_ne (tgt := 72) hx hb dX1_add_63 (by decide) (fun c85 => ?_) (fun c85 => ?_)
    · have hm := (if_neg c85).symm.trans hm
      refine lv_aload_n hx hb dX1_add_72 rfl (lv_at hl 1 rfl) ?_
      refine lv_iload hx hb dX1_add_73 (lv_at hl 0 rfl) ?_
      obtain ⟨r86, h87, hm⟩ := ok_bind hm
      refine calV_i (As := [.int v80]) (rest := [.int v79, .ref (a 11)]) ⟨hx, hb, hml, hown, hts⟩ (kX1_letters l D y a t hI _ s84 v80 r86 h87) (cwV 1 hts (gAV aM_X1_64 aI_X1_letters aS_X1_letters aN_X1 aC_X1_letters) rfl rfl rfl eX1_letters ⟨Nat.le_of_ble_eq_true rfl, Nat.le_of_ble_eq_true rfl⟩) (preV_W (ci := 1) (q := (RX1, TX1, 8)) hK hP hF hS rfl (wC_1 y a s84)) rfl hl.1 rfl (Nat.le_of_ble_eq_true rfl) dX1_add_75 ⟨Nat.zero_le _, Nat.zero_le _⟩ hS (AC_le hS.1) (fun H locs hP hS hk1 => ?_)
      refine lv_aload_n hx hb dX1_add_78 rfl (lv_at hl 1 rfl) ?_
      refine lv_iload_n hx hb dX1_add_79 rfl (lv_at hl 4 rfl) ?_
      obtain ⟨r88, h89, hm⟩ := ok_bind hm
      refine calV_i (As := [.int v78]) (rest := [.int r86, .int v79, .ref (a 11)]) ⟨hx, hb, hml, hown, hts⟩ (kX1_letters l D y a t hI _ s84 v78 r88 h89) (cwV 1 hts (gAV aM_X1_64 aI_X1_letters aS_X1_letters aN_X1 aC_X1_letters) rfl rfl rfl eX1_letters ⟨Nat.le_of_ble_eq_true rfl, Nat.le_of_ble_eq_true rfl⟩) (preV_W (ci := 1) (q := (RX1, TX1, 8)) hK hP hF hS rfl (wC_1 y a s84)) rfl hl.1 rfl (Nat.le_of_ble_eq_true rfl) dX1_add_80 ⟨Nat.zero_le _, Nat.zero_le _⟩ hS (AC_le hS.1) (fun H locs hP hS hk1 => ?_)
      refine lv_ior hx hb dX1_add_83 ?_
      exact L_84 s84 v76 v77 v78 v79 v80 (r86 ||| r88) v79 _ _ _ hP hS (lv_sub hl [1, 2, 3, 4, 5, 0] rfl) hm
    · have hm := (if_pos c85).symm.trans hm
      refine lv_iconst (v := 1) hx hb dX1_add_66 (by decide) ?_
      refine lv_iload_n hx hb dX1_add_67 rfl (lv_at hl 3 rfl) ?_
      refine lv_ishl hx hb dX1_add_68 ?_
      refine lv_goto (tgt := 84) hx hb dX1_add_69 (by decide) ?_
      exact L_84 s84 v76 v77 v78 v79 v80 ((1 : Int32) <<< (v77 &&& 31)) v79 _ _ _ hP hS (lv_sub hl [1, 2, 3, 4, 5, 0] rfl) hm
  unfold mX1_add at hm
  refine lv_aload_n hx hb dX1_add_0 rfl (lv_at hl 0 rfl) ?_
  refine gfX1_known hx hb h_X1 hown hK hP l_f34 dX1_add_1 ?_
  refine lv_topi (fun x90 ex90 => ?_)
  have hm := bnd_x ex90 hm
  refine lv_istore (lv' := [(4, .int x90), (0, .ref (a 1)), (1, .int p1), (2, .int p2), (3, .int p3)]) hx hb dX1_add_4 hl (by decide) rfl (fun ls hl => ?_)
  refine lv_iload hx hb dX1_add_6 (lv_at hl 0 rfl) ?_
  refine lv_if_lt (tgt := 19) hx hb dX1_add_8 (by decide) (fun c91 => ?_) (fun c91 => ?_)
  · have hm := (if_pos c91).symm.trans hm
    exact W.vret hx hb hr (fun T hT hW => ⟨⟨σ, rfl, Option.some.inj hm, by rw [posW, hT]; exact hP⟩, hS.F hT⟩) hS.2.2 dX1_add_19
  · have hm := (if_neg c91).symm.trans hm
    refine lv_iload hx hb dX1_add_11 (lv_at hl 0 rfl) ?_
    refine lv_sipush (v := 240) hx hb dX1_add_13 (by decide) ?_
    refine lv_icmp_lt (tgt := 20) hx hb dX1_add_16 (by decide) (fun c92 => ?_) (fun c92 => ?_)
    · have hm := (if_pos c92).symm.trans hm
      refine lv_iload_n hx hb dX1_add_20 rfl (lv_at hl 2 rfl) ?_
      refine lv_iconst (v := 2) hx hb dX1_add_21 (by decide) ?_
      refine lv_icmp_lt (tgt := 29) hx hb dX1_add_22 (by decide) (fun c93 => ?_) (fun c93 => ?_)
      · have hm := (if_pos c93).symm.trans hm
        refine lv_iconst (v := (-1)) hx hb dX1_add_29 (by decide) ?_
        exact L_30 σ p1 p2 p3 x90 (-1) _ _ _ hP hS (lv_sub hl [1, 2, 3, 4, 0] rfl) hm
      · have hm := (if_neg c93).symm.trans hm
        refine lv_iload_n hx hb dX1_add_25 rfl (lv_at hl 3 rfl) ?_
        refine lv_goto (tgt := 30) hx hb dX1_add_26 (by decide) ?_
        exact L_30 σ p1 p2 p3 x90 p2 _ _ _ hP hS (lv_sub hl [1, 2, 3, 4, 0] rfl) hm
    · have hm := (if_neg c92).symm.trans hm
      exact W.vret hx hb hr (fun T hT hW => ⟨⟨σ, rfl, Option.some.inj hm, by rw [posW, hT]; exact hP⟩, hS.F hT⟩) hS.2.2 dX1_add_19
theorem eX1_number : yX1_number.cls = RX1 ∧ yX1_number.cls ≠ "java/lang/invoke/MethodHandle" ∧ yX1_number.cls ≠ "java/lang/invoke/VarHandle" ∧ (parseMethodDescriptor yX1_number.desc).map (fun d => d.parameters.length) = some 3 := by decide +kernel
def mX1_number_34 (s4 : St) (v1 : Int32) (v2 : Int32) (v3 : Int32) : Option (Int32 × St) :=
(mX1_find s4 v1 v2 v3).bind fun r5 =>
if 0 ≤ r5 then (
some (r5, s4))
else (
if (s4.1 0 0) < 240 then (
(mX1_add s4 v1 v2 v3).bind fun s10 =>
some ((s10.1 0 0) - 1, s10))
else (
some (r5, s4)))
def mX1_number_22 (s14 : St) (v11 : Int32) (v12 : Int32) (v13 : Int32) : Option (Int32 × St) :=
if v11 < 3 then (
mX1_number_34 s14 v11 v13 (-1))
else (
mX1_number_34 s14 v11 v13 v12)
def mX1_number (σ : St) (p1 : Int32) (p2 : Int32) (p3 : Int32) : Option (Int32 × St) :=
(mX1_hasParts σ p1 p2 p3).bind fun r16 =>
if r16 = 0 then (
some ((-1), σ))
else (
if p1 = 1 then (
mX1_number_22 σ p1 p3 (-1))
else (
mX1_number_22 σ p1 p3 p2))
set_option maxHeartbeats 4000000 in
set_option maxRecDepth 100000 in
theorem kX1_number (l : Launch) (D : va_G) (y : Nat → ClassId) (a t : Nat → Nat) (hI : AI a 37) (sz : Nat) (σ τ : St) (p1 : Int32) (p2 : Int32) (p3 : Int32) (r : Int32) (hm : mX1_number σ p1 p2 p3 = some (r, τ)) : Met l yX1_number zX1_number { frames := 2, cells := 0, slots := 0, locals := 51 } (va_Pc [.ref (a 1), .int p1, .int p2, .int p3] (preW (wC y a) a 37 D y t σ sz)) (va_Qi (fun r' u => r' = r ∧ u = τ) (posW (wC y a) D) (AC a 37 sz)) 0 0 (AC a 37 sz) := by
  refine Met.ofW (cc := cX1_number) (maxL := 7) (ret := (some .int)) (by decide) rfl ?_
  intro p e s m args below meth c s₁ B hml hv
  obtain ⟨rfl, hsz, hP, hK, hF⟩ := hv
  have hx := B.exec
  have hb := B.bytes
  have hr := B.returns
  have hts := atoms_spec (ws := zX1_number) B.pre
  have hown : s.vm.findClass RX1 = some m.cls := findClass_of_methodNamed B.named
  have hlocks := B.notSynchronized
  subst hsz
  have l_f34 := hts _ (List.mem_cons_of_mem _ aF_X1_34)
  have h_X1 : ∀ w ∈ wsX10, w.before _ s = true := fun w hw => hts w (List.mem_cons_of_mem _ (hwX1 w hw))
  have hS : va_S (AC a 37 s.heap.size) s.heap s.heap [] := va_S.rf
  have hl := lv_entry ([.ref (a 1), .int p1, .int p2, .int p3]) (n := 7) (Nat.le_of_ble_eq_true rfl)
  rw [lg_entry_eq]
  generalize (lg_sl ([.ref (a 1), .int p1, .int p2, .int p3]) ++ List.replicate (7 - (lg_sl ([.ref (a 1), .int p1, .int p2, .int p3])).length) Slot.unset).toArray = ls at hl ⊢
  have hl : lv_has ls 7 [(0, .ref (a 1)), (1, .int p1), (2, .int p2), (3, .int p3)] := hl
  have L_34 : ∀ (s4 : St) (v1 : Int32) (v2 : Int32) (v3 : Int32) (H : Heap) (locs : List Loc) (ls : Array Slot), va_P D vwCl (wC y a s4) H → va_S (AC a 37 s.heap.size) s.heap H locs → lv_has ls 7 [(0, .ref (a 1)), (1, .int v1), (4, .int v2)] → mX1_number_34 s4 v1 v2 v3 = some (r, τ) → W p l e (headSpec zX1_number ({ frames := 2, cells := 0, slots := 0, locals := 51 })).room s m ([.ref (a 1), .int p1, .int p2, .int p3] : List Value).toArray below meth c H locs 0 0 (MQ below (va_Qi (fun r' u => r' = r ∧ u = τ) (posW (wC y a) D) (AC a 37 s.heap.size)) ([.ref (a 1), .int p1, .int p2, .int p3] : List Value).toArray s 0 0 (AC a 37 s.heap.size)) (F0 m 34 ls [.int v3]) := by
    intro s4 v1 v2 v3 H locs ls hP hS hl hm
    unfold mX1_number_34 at hm
    refine lv_istore (lv' := [(5, .int v3), (0, .ref (a 1)), (1, .int v1), (4, .int v2)]) hx hb dX1_number_34 hl (by decide) rfl (fun ls hl => ?_)
    refine lv_aload_n hx hb dX1_number_36 rfl (lv_at hl 1 rfl) ?_
    refine lv_iload_n hx hb dX1_number_37 rfl (lv_at hl 2 rfl) ?_
    refine lv_iload hx hb dX1_number_38 (lv_at hl 3 rfl) ?_
    refine lv_iload hx hb dX1_number_40 (lv_at hl 0 rfl) ?_
    obtain ⟨r5, h6, hm⟩ := ok_bind hm
    refine calV_i (As := [.int v1, .int v2, .int v3]) (rest := []) ⟨hx, hb, hml, hown, hts⟩ (kX1_find l D y a t hI _ s4 v1 v2 v3 r5 h6) (cwV 3 hts (gAV aM_X1_56 aI_X1_find aS_X1_find aN_X1 aC_X1_find) rfl rfl rfl eX1_find ⟨Nat.le_of_ble_eq_true rfl, Nat.le_of_ble_eq_true rfl⟩) (preV_W (ci := 1) (q := (RX1, TX1, 8)) hK hP hF hS rfl (wC_1 y a s4)) rfl hl.1 rfl (Nat.le_of_ble_eq_true rfl) dX1_number_42 ⟨Nat.zero_le _, Nat.zero_le _⟩ hS (AC_le hS.1) (fun H locs hP hS hk1 => ?_)
    refine lv_istore (lv' := [(6, .int r5), (5, .int v3), (0, .ref (a 1)), (1, .int v1), (4, .int v2)]) hx hb dX1_number_45 hl (by decide) rfl (fun ls hl => ?_)
    refine lv_iload hx hb dX1_number_47 (lv_at hl 0 rfl) ?_
    refine lv_if_ge (tgt := 62) hx hb dX1_number_49 (by decide) (fun c7 => ?_) (fun c7 => ?_)
    · have hm := (if_pos c7).symm.trans hm
      refine lv_iload hx hb dX1_number_62 (lv_at hl 0 rfl) ?_
      exact W.iret (v := r5) hx hb hr (fun T hT hW => ⟨⟨r5, s4, rfl, ⟨congrArg Prod.fst (Option.some.inj hm), congrArg Prod.snd (Option.some.inj hm)⟩, by rw [posW, hT]; exact hP⟩, hS.F hT⟩) hS.2.2 dX1_number_64
    · have hm := (if_neg c7).symm.trans hm
      refine lv_aload_n hx hb dX1_number_52 rfl (lv_at hl 2 rfl) ?_
      refine gfX1_known hx hb h_X1 hown hK hP l_f34 dX1_number_53 ?_
      refine lv_sipush (v := 240) hx hb dX1_number_56 (by decide) ?_
      refine lv_icmp_lt (tgt := 65) hx hb dX1_number_59 (by decide) (fun c8 => ?_) (fun c8 => ?_)
      · have hm := (if_pos c8).symm.trans hm
        refine lv_aload_n hx hb dX1_number_65 rfl (lv_at hl 2 rfl) ?_
        refine lv_iload_n hx hb dX1_number_66 rfl (lv_at hl 3 rfl) ?_
        refine lv_iload hx hb dX1_number_67 (lv_at hl 4 rfl) ?_
        refine lv_iload hx hb dX1_number_69 (lv_at hl 1 rfl) ?_
        obtain ⟨s10, h9, hm⟩ := ok_bind hm
        refine calV_v (As := [.int v1, .int v2, .int v3]) (rest := []) ⟨hx, hb, hml, hown, hts⟩ (kX1_add l D y a t hI _ s4 s10 v1 v2 v3 h9) (cwV 3 hts (gAV aM_X1_60 aI_X1_add aS_X1_add aN_X1 aC_X1_add) rfl rfl rfl eX1_add ⟨Nat.le_of_ble_eq_true rfl, Nat.le_of_ble_eq_true rfl⟩) (preV_W (ci := 1) (q := (RX1, TX1, 8)) hK hP hF hS rfl (wC_1 y a s4)) rfl hl.1 rfl (Nat.le_of_ble_eq_true rfl) dX1_number_71 ⟨Nat.zero_le _, Nat.zero_le _⟩ hS (AC_le hS.1) (fun H locs hP hS hk1 => ?_)
        refine lv_aload_n hx hb dX1_number_74 rfl (lv_at hl 2 rfl) ?_
        refine gfX1_known hx hb h_X1 hown hK hP l_f34 dX1_number_75 ?_
        refine lv_iconst (v := 1) hx hb dX1_number_78 (by decide) ?_
        refine lv_isub hx hb dX1_number_79 ?_
        exact W.iret (v := (s10.1 0 0) - 1) hx hb hr (fun T hT hW => ⟨⟨(s10.1 0 0) - 1, s10, rfl, ⟨congrArg Prod.fst (Option.some.inj hm), congrArg Prod.snd (Option.some.inj hm)⟩, by rw [posW, hT]; exact hP⟩, hS.F hT⟩) hS.2.2 dX1_number_80
      · have hm := (if_neg c8).symm.trans hm
        refine lv_iload hx hb dX1_number_62 (lv_at hl 0 rfl) ?_
        exact W.iret (v := r5) hx hb hr (fun T hT hW => ⟨⟨r5, s4, rfl, ⟨congrArg Prod.fst (Option.some.inj hm), congrArg Prod.snd (Option.some.inj hm)⟩, by rw [posW, hT]; exact hP⟩, hS.F hT⟩) hS.2.2 dX1_number_64
  have L_22 : ∀ (s14 : St) (v11 : Int32) (v12 : Int32) (v13 : Int32) (H : Heap) (locs : List Loc) (ls : Array Slot), va_P D vwCl (wC y a s14) H → va_S (AC a 37 s.heap.size) s.heap H locs → lv_has ls 7 [(0, .ref (a 1)), (1, .int v11), (3, .int v12)] → mX1_number_22 s14 v11 v12 v13 = some (r, τ) → W p l e (headSpec zX1_number ({ frames := 2, cells := 0, slots := 0, locals := 51 })).room s m ([.ref (a 1), .int p1, .int p2, .int p3] : List Value).toArray below meth c H locs 0 0 (MQ below (va_Qi (fun r' u => r' = r ∧ u = τ) (posW (wC y a) D) (AC a 37 s.heap.size)) ([.ref (a 1), .int p1, .int p2, .int p3] : List Value).toArray s 0 0 (AC a 37 s.heap.size)) (F0 m 22 ls [.int v13]) := by
    intro s14 v11 v12 v13 H locs ls hP hS hl hm
    unfold mX1_number_22 at hm
    refine lv_istore (lv' := [(4, .int v13), (0, .ref (a 1)), (1, .int v11), (3, .int v12)]) hx hb dX1_number_22 hl (by decide) rfl (fun ls hl => ?_)
    refine lv_iload_n hx hb dX1_number_24 rfl (lv_at hl 2 rfl) ?_
    refine lv_iconst (v := 3) hx hb dX1_number_25 (by decide) ?_
    refine lv_icmp_lt (tgt := 33) hx hb dX1_number_26 (by decide) (fun c15 => ?_) (fun c15 => ?_)
    · have hm := (if_pos c15).symm.trans hm
      refine lv_iconst (v := (-1)) hx hb dX1_number_33 (by decide) ?_
      exact L_34 s14 v11 v13 (-1) _ _ _ hP hS (lv_sub hl [1, 2, 0] rfl) hm
    · have hm := (if_neg c15).symm.trans hm
      refine lv_iload_n hx hb dX1_number_29 rfl (lv_at hl 3 rfl) ?_
      refine lv_goto (tgt := 34) hx hb dX1_number_30 (by decide) ?_
      exact L_34 s14 v11 v13 v12 _ _ _ hP hS (lv_sub hl [1, 2, 0] rfl) hm
  unfold mX1_number at hm
  refine lv_aload_n hx hb dX1_number_0 rfl (lv_at hl 0 rfl) ?_
  refine lv_iload_n hx hb dX1_number_1 rfl (lv_at hl 1 rfl) ?_
  refine lv_iload_n hx hb dX1_number_2 rfl (lv_at hl 2 rfl) ?_
  refine lv_iload_n hx hb dX1_number_3 rfl (lv_at hl 3 rfl) ?_
  obtain ⟨r16, h17, hm⟩ := ok_bind hm
  refine calV_i (As := [.int p1, .int p2, .int p3]) (rest := []) ⟨hx, hb, hml, hown, hts⟩ (kX1_hasParts l D y a t hI _ σ p1 p2 p3 r16 h17) (cwV 3 hts (gAV aM_X1_52 aI_X1_hasParts aS_X1_hasParts aN_X1 aC_X1_hasParts) rfl rfl rfl eX1_hasParts ⟨Nat.le_of_ble_eq_true rfl, Nat.le_of_ble_eq_true rfl⟩) (preV_W (ci := 1) (q := (RX1, TX1, 8)) hK hP hF hS rfl (wC_1 y a σ)) rfl hl.1 rfl (Nat.le_of_ble_eq_true rfl) dX1_number_4 ⟨Nat.zero_le _, Nat.zero_le _⟩ hS (AC_le hS.1) (fun H locs hP hS hk1 => ?_)
  refine lv_if_ne (tgt := 12) hx hb dX1_number_7 (by decide) (fun c18 => ?_) (fun c18 => ?_)
  · have hm := (if_neg c18).symm.trans hm
    refine lv_iload_n hx hb dX1_number_12 rfl (lv_at hl 1 rfl) ?_
    refine lv_iconst (v := 1) hx hb dX1_number_13 (by decide) ?_
    refine lv_icmp_ne (tgt := 21) hx hb dX1_number_14 (by decide) (fun c19 => ?_) (fun c19 => ?_)
    · have hm := (if_neg c19).symm.trans hm
      refine lv_iload_n hx hb dX1_number_21 rfl (lv_at hl 2 rfl) ?_
      exact L_22 σ p1 p3 p2 _ _ _ hP hS (lv_sub hl [0, 1, 3] rfl) hm
    · have hm := (if_pos c19).symm.trans hm
      refine lv_iconst (v := (-1)) hx hb dX1_number_17 (by decide) ?_
      refine lv_goto (tgt := 22) hx hb dX1_number_18 (by decide) ?_
      exact L_22 σ p1 p3 (-1) _ _ _ hP hS (lv_sub hl [0, 1, 3] rfl) hm
  · have hm := (if_pos c18).symm.trans hm
    refine lv_iconst (v := (-1)) hx hb dX1_number_10 (by decide) ?_
    exact W.iret (v := (-1)) hx hb hr (fun T hT hW => ⟨⟨(-1), σ, rfl, ⟨congrArg Prod.fst (Option.some.inj hm), congrArg Prod.snd (Option.some.inj hm)⟩, by rw [posW, hT]; exact hP⟩, hS.F hT⟩) hS.2.2 dX1_number_11
theorem eJ7_fill_53178 : yJ7_fill_53178.cls ≠ "java/lang/invoke/MethodHandle" ∧ yJ7_fill_53178.cls ≠ "java/lang/invoke/VarHandle" ∧ (parseMethodDescriptor yJ7_fill_53178.desc).map (fun d => d.parameters.length) = some 2 := by decide +kernel
def bJ7_fill_53178_5 (kh5 : St → Int32 → Int32 → Int32 → Option St) (s4 : St) (v1 : Int32) (v2 : Int32) (v3 : Int32) : Option St :=
if v3 ≤ v2 then (
some s4)
else (
chkI v2 240 (
bnd (su s4 28 (upd (s4.1 28) v2.toNatClampNeg v1)) fun s6 =>
bnd (v2 + 1) fun x7 =>
kh5 s6 v1 x7 v3))
abbrev mJ7_fill_53178_5 (n : Nat) : St → Int32 → Int32 → Int32 → Option St := fx (fun _ _ _ _ => none) (bJ7_fill_53178_5) n
def mJ7_fill_53178 (σ : St) (p1 : Int32) : Option St :=
mJ7_fill_53178_5 NF σ p1 0 240
set_option maxHeartbeats 4000000 in
set_option maxRecDepth 100000 in
theorem kJ7_fill_53178 (l : Launch) (D : va_G) (y : Nat → ClassId) (a t : Nat → Nat) (hI : AI a 37) (sz : Nat) (σ τ : St) (p1 : Int32) (hm : mJ7_fill_53178 σ p1 = some τ) : Met l yJ7_fill_53178 zJ7_fill_53178 { frames := 0, cells := 0, slots := 0, locals := 0 } (va_Pc [.ref (a 25), .int p1] (preW (wC y a) a 37 D y t σ sz)) (va_Qv (fun u => u = τ) (posW (wC y a) D) (AC a 37 sz)) 0 0 (AC a 37 sz) := by
  refine Met.ofW (cc := cJ7_fill_53178) (maxL := 4) (ret := none) (by decide) rfl ?_
  intro p e s m args below meth c s₁ B hml hv
  obtain ⟨rfl, hsz, hP, hK, hF⟩ := hv
  have hx := B.exec
  have hb := B.bytes
  have hr := B.returns
  have hts := atoms_spec (ws := zJ7_fill_53178) B.pre
  have hown : s.vm.findClass RJ7 = some m.cls := findClass_of_methodNamed B.named
  have hlocks := B.notSynchronized
  subst hsz
  have hS : va_S (AC a 37 s.heap.size) s.heap s.heap [] := va_S.rf
  have hl := lv_entry ([.ref (a 25), .int p1]) (n := 4) (Nat.le_of_ble_eq_true rfl)
  rw [lg_entry_eq]
  generalize (lg_sl ([.ref (a 25), .int p1]) ++ List.replicate (4 - (lg_sl ([.ref (a 25), .int p1])).length) Slot.unset).toArray = ls at hl ⊢
  have hl : lv_has ls 4 [(0, .ref (a 25)), (1, .int p1)] := hl
  have L_5 : ∀ (n : Nat) (s4 : St) (v1 : Int32) (v2 : Int32) (v3 : Int32) (H : Heap) (locs : List Loc) (ls : Array Slot), va_P D vwCl (wC y a s4) H → va_S (AC a 37 s.heap.size) s.heap H locs → lv_has ls 4 [(0, .ref (a 25)), (1, .int v1), (2, .int v2), (3, .int v3)] → mJ7_fill_53178_5 n s4 v1 v2 v3 = some τ → W p l e (headSpec zJ7_fill_53178 ({ frames := 0, cells := 0, slots := 0, locals := 0 })).room s m ([.ref (a 25), .int p1] : List Value).toArray below meth c H locs 0 0 (MQ below (va_Qv (fun u => u = τ) (posW (wC y a) D) (AC a 37 s.heap.size)) ([.ref (a 25), .int p1] : List Value).toArray s 0 0 (AC a 37 s.heap.size)) (F0 m 5 ls []) := by
    intro n
    induction n with
    | zero =>
      intro s4 v1 v2 v3 H locs ls hP hS hl hm
      exact absurd (show (none : Option St) = some τ from hm) (by intro h; cases h)
    | succ n ih5 =>
      obtain ⟨kh5, ekh5⟩ : ∃ z, z = mJ7_fill_53178_5 n := ⟨_, rfl⟩
      have ih5 : ∀ (s4 : St) (v1 : Int32) (v2 : Int32) (v3 : Int32) (H : Heap) (locs : List Loc) (ls : Array Slot), va_P D vwCl (wC y a s4) H → va_S (AC a 37 s.heap.size) s.heap H locs → lv_has ls 4 [(0, .ref (a 25)), (1, .int v1), (2, .int v2), (3, .int v3)] → kh5 s4 v1 v2 v3 = some τ → W p l e (headSpec zJ7_fill_53178 ({ frames := 0, cells := 0, slots := 0, locals := 0 })).room s m ([.ref (a 25), .int p1] : List Value).toArray below meth c H locs 0 0 (MQ below (va_Qv (fun u => u = τ) (posW (wC y a) D) (AC a 37 s.heap.size)) ([.ref (a 25), .int p1] : List Value).toArray s 0 0 (AC a 37 s.heap.size)) (F0 m 5 ls []) := by rw [ekh5]; exact ih5
      intro s4 v1 v2 v3 H locs ls hP hS hl hm
      have hm : bJ7_fill_53178_5 (mJ7_fill_53178_5 n) s4 v1 v2 v3 = some τ := hm
      rw [← ekh5] at hm
      unfold bJ7_fill_53178_5 at hm
      refine lv_iload_n hx hb dJ7_fill_53178_5 rfl (lv_at hl 2 rfl) ?_
      refine lv_iload_n hx hb dJ7_fill_53178_6 rfl (lv_at hl 3 rfl) ?_
      refine lv_icmp_ge (tgt := 20) hx hb dJ7_fill_53178_7 (by decide) (fun c5 => ?_) (fun c5 => ?_)
      · have hm := (if_pos c5).symm.trans hm
        exact W.vret hx hb hr (fun T hT hW => ⟨⟨s4, rfl, Option.some.inj hm, by rw [posW, hT]; exact hP⟩, hS.F hT⟩) hS.2.2 dJ7_fill_53178_20
      · have hm := (if_neg c5).symm.trans hm
        refine lv_aload_n hx hb dJ7_fill_53178_10 rfl (lv_at hl 0 rfl) ?_
        refine lv_iload_n hx hb dJ7_fill_53178_11 rfl (lv_at hl 2 rfl) ?_
        refine lv_iload_n hx hb dJ7_fill_53178_12 rfl (lv_at hl 1 rfl) ?_
        obtain ⟨hi, hm⟩ := ok_I hm
        refine stC_25 hx hb hK hP hI AC_in hS hi dJ7_fill_53178_13 (fun H locs hP hS => ?_)
        generalize es6 : su s4 28 (upd (s4.1 28) v2.toNatClampNeg v1) = s6 at hP
        have hm := bnd_x es6.symm hm
        obtain ⟨x7, ex7⟩ : ∃ z : Int32, z = v2 + 1 := ⟨_, rfl⟩
        have hm := bnd_x ex7 hm
        refine lv_iinc (v := x7) (lv' := [(2, .int x7), (0, .ref (a 25)), (1, .int v1), (3, .int v3)]) hx hb dJ7_fill_53178_14 hl (k := 2) rfl (by rw [ex7]; rfl) (by decide) rfl (fun ls hl => ?_)
        refine lv_goto (tgt := 5) hx hb dJ7_fill_53178_17 (by decide) ?_
        exact ih5 s6 v1 x7 v3 _ _ _ hP hS (lv_sub hl [1, 2, 0, 3] rfl) hm
  unfold mJ7_fill_53178 at hm
  refine lv_iconst (v := 0) hx hb dJ7_fill_53178_0 (by decide) ?_
  refine lv_istore_n (lv' := [(2, .int 0), (0, .ref (a 25)), (1, .int p1)]) hx hb dJ7_fill_53178_1 rfl hl (by decide) rfl (fun ls hl => ?_)
  refine lv_aload_n hx hb dJ7_fill_53178_2 rfl (lv_at hl 1 rfl) ?_
  refine alC_25 hx hb hK hP dJ7_fill_53178_3 ?_
  refine lv_istore_n (lv' := [(3, .int 240), (2, .int 0), (0, .ref (a 25)), (1, .int p1)]) hx hb dJ7_fill_53178_4 rfl hl (by decide) rfl (fun ls hl => ?_)
  exact L_5 NF σ p1 0 240 _ _ _ hP hS (lv_sub hl [2, 3, 1, 0] rfl) hm
