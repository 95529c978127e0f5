section
variable {p : Program} {l : Launch} {e : Env} {R : Room} {s : State} {m : MethodId} {args : Array Value} {below : List Frame} {meth : Method} {c : Code} {H : Heap} {locs : List Loc} {cells slots : Nat} {Q : State → Prop} {cc : ByteArray} {pc : Nat} {ls : Array Slot} {rest : List Value} {D : va_G} {y : Nat → ClassId} {ws : va_W} {A : Nat → Prop} {n : Nat} {k : Int32}
theorem nwG_int {H0 : Heap} (hx : p.tables.exec = Jvm.exec) (hb : c.code = cc) (harr : (Cond.arrayClass .int).before args s = true) (hK : va_K D vwCl (tysA y) s) (hP : va_P D vwCl ws H) (hD : va_D A ws) (hS : va_S A H0 H locs) (hA2 : ∀ q, H0.size ≤ q → A q)
    (hn : ¬ k < 0) (hN : k.toNatClampNeg = n) (hbytes : n * 4 ≤ 536870912) (hcells : cells + 1 ≤ R.cells) (hslots : slots + n ≤ R.slots) (hdg : decode cc pc = .ok (.newarray .int, 2))
    (kk : ∀ (q : Nat) (H : Heap), va_P D vwCl (ws ++ [(q, .inl (y 0, n, .inl (fun _ => 0)))]) H → va_D A (ws ++ [(q, .inl (y 0, n, .inl (fun _ => 0)))]) → va_S A H0 H locs → W p l e R s m args below meth c H locs (cells + 1) (slots + n) Q (F0 m (pc + 2) ls (.ref q :: rest))) : W p l e R s m args below meth c H locs cells slots Q (F0 m pc ls (.int k :: rest)) := by
  refine va_newa (atype := .int) (ty := .int) (a0 := (n, .inl (fun _ => 0))) hx hb harr rfl hK hP hD hS hA2 (fun cA => rfl) hn hN hbytes hcells hslots hdg (fun q cA H1 hK1 hP1 hD1 hS1 => ?_)
  have h1 : s.vm.findClass ("[" ++ FieldType.int.toString) = some cA := (hK1.2 4 (cA, .int) rfl).2
  have h2 : s.vm.findClass ("[" ++ FieldType.int.toString) = some (y 0) := (hK1.2 0 (y 0, .int) rfl).2
  have h3 : cA = y 0 := Option.some.inj (h1.symm.trans h2)
  subst h3
  exact kk q H1 hP1 hD1 hS1
theorem nwG_byte {H0 : Heap} (hx : p.tables.exec = Jvm.exec) (hb : c.code = cc) (harr : (Cond.arrayClass .byte).before args s = true) (hK : va_K D vwCl (tysA y) s) (hP : va_P D vwCl ws H) (hD : va_D A ws) (hS : va_S A H0 H locs) (hA2 : ∀ q, H0.size ≤ q → A q)
    (hn : ¬ k < 0) (hN : k.toNatClampNeg = n) (hbytes : n * 1 ≤ 536870912) (hcells : cells + 1 ≤ R.cells) (hslots : slots + n ≤ R.slots) (hdg : decode cc pc = .ok (.newarray .byte, 2))
    (kk : ∀ (q : Nat) (H : Heap), va_P D vwCl (ws ++ [(q, .inl (y 1, n, .inl (fun _ => 0)))]) H → va_D A (ws ++ [(q, .inl (y 1, n, .inl (fun _ => 0)))]) → va_S A H0 H locs → W p l e R s m args below meth c H locs (cells + 1) (slots + n) Q (F0 m (pc + 2) ls (.ref q :: rest))) : W p l e R s m args below meth c H locs cells slots Q (F0 m pc ls (.int k :: rest)) := by
  refine va_newa (atype := .byte) (ty := .byte) (a0 := (n, .inl (fun _ => 0))) hx hb harr rfl hK hP hD hS hA2 (fun cA => rfl) hn hN hbytes hcells hslots hdg (fun q cA H1 hK1 hP1 hD1 hS1 => ?_)
  have h1 : s.vm.findClass ("[" ++ FieldType.byte.toString) = some cA := (hK1.2 4 (cA, .byte) rfl).2
  have h2 : s.vm.findClass ("[" ++ FieldType.byte.toString) = some (y 1) := (hK1.2 1 (y 1, .byte) rfl).2
  have h3 : cA = y 1 := Option.some.inj (h1.symm.trans h2)
  subst h3
  exact kk q H1 hP1 hD1 hS1
theorem nwG_long {H0 : Heap} (hx : p.tables.exec = Jvm.exec) (hb : c.code = cc) (harr : (Cond.arrayClass .long).before args s = true) (hK : va_K D vwCl (tysA y) s) (hP : va_P D vwCl ws H) (hD : va_D A ws) (hS : va_S A H0 H locs) (hA2 : ∀ q, H0.size ≤ q → A q)
    (hn : ¬ k < 0) (hN : k.toNatClampNeg = n) (hbytes : n * 8 ≤ 536870912) (hcells : cells + 1 ≤ R.cells) (hslots : slots + n ≤ R.slots) (hdg : decode cc pc = .ok (.newarray .long, 2))
    (kk : ∀ (q : Nat) (H : Heap), va_P D vwCl (ws ++ [(q, .inl (y 2, n, .inr (.inl (fun _ => 0))))]) H → va_D A (ws ++ [(q, .inl (y 2, n, .inr (.inl (fun _ => 0))))]) → va_S A H0 H locs → W p l e R s m args below meth c H locs (cells + 1) (slots + n) Q (F0 m (pc + 2) ls (.ref q :: rest))) : W p l e R s m args below meth c H locs cells slots Q (F0 m pc ls (.int k :: rest)) := by
  refine va_newa (atype := .long) (ty := .long) (a0 := (n, .inr (.inl (fun _ => 0)))) hx hb harr rfl hK hP hD hS hA2 (fun cA => rfl) hn hN hbytes hcells hslots hdg (fun q cA H1 hK1 hP1 hD1 hS1 => ?_)
  have h1 : s.vm.findClass ("[" ++ FieldType.long.toString) = some cA := (hK1.2 4 (cA, .long) rfl).2
  have h2 : s.vm.findClass ("[" ++ FieldType.long.toString) = some (y 2) := (hK1.2 2 (y 2, .long) rfl).2
  have h3 : cA = y 2 := Option.some.inj (h1.symm.trans h2)
  subst h3
  exact kk q H1 hP1 hD1 hS1
theorem nwG_boolean {H0 : Heap} (hx : p.tables.exec = Jvm.exec) (hb : c.code = cc) (harr : (Cond.arrayClass .boolean).before args s = true) (hK : va_K D vwCl (tysA y) s) (hP : va_P D vwCl ws H) (hD : va_D A ws) (hS : va_S A H0 H locs) (hA2 : ∀ q, H0.size ≤ q → A q)
    (hn : ¬ k < 0) (hN : k.toNatClampNeg = n) (hbytes : n * 1 ≤ 536870912) (hcells : cells + 1 ≤ R.cells) (hslots : slots + n ≤ R.slots) (hdg : decode cc pc = .ok (.newarray .boolean, 2))
    (kk : ∀ (q : Nat) (H : Heap), va_P D vwCl (ws ++ [(q, .inl (y 3, n, .inl (fun _ => 0)))]) H → va_D A (ws ++ [(q, .inl (y 3, n, .inl (fun _ => 0)))]) → va_S A H0 H locs → W p l e R s m args below meth c H locs (cells + 1) (slots + n) Q (F0 m (pc + 2) ls (.ref q :: rest))) : W p l e R s m args below meth c H locs cells slots Q (F0 m pc ls (.int k :: rest)) := by
  refine va_newa (atype := .boolean) (ty := .boolean) (a0 := (n, .inl (fun _ => 0))) hx hb harr rfl hK hP hD hS hA2 (fun cA => rfl) hn hN hbytes hcells hslots hdg (fun q cA H1 hK1 hP1 hD1 hS1 => ?_)
  have h1 : s.vm.findClass ("[" ++ FieldType.boolean.toString) = some cA := (hK1.2 4 (cA, .boolean) rfl).2
  have h2 : s.vm.findClass ("[" ++ FieldType.boolean.toString) = some (y 3) := (hK1.2 3 (y 3, .boolean) rfl).2
  have h3 : cA = y 3 := Option.some.inj (h1.symm.trans h2)
  subst h3
  exact kk q H1 hP1 hD1 hS1
end
def NX (U : State) : Prop := va_Nw (.methodLinkNest RX7 9 yX1_init "ProofDesk") U ∧ va_Nw (.methodLinkNest RX3 11 yX0_init "ProofDesk") U
theorem NX.warm {s U : State} (hW : s.WarmedH U.vm) (h : NX s) : NX U := ⟨h.1.warmM hW, h.2.warmM hW⟩
def preI (D : va_G) (y : Nat → ClassId) (ws : va_W) (sz : Nat) (U : State) : Prop := U.heap.size = sz ∧ va_P D vwCl ws U.heap ∧ va_K D vwCl (tysA y) U ∧ va_D (fun _ => True) ws ∧ NX U
theorem preI_blind {D : va_G} {y : Nat → ClassId} {ws : va_W} {sz : Nat} {av : List Value} : FrameBlind (va_Pc av (preI D y ws sz)) := by
  intro b U g mk q
  obtain ⟨q0, q1, q2, q3, q4, q5⟩ := q
  exact ⟨q0, q1, q2, va_K.moved (u := U) (U := U.calling g mk b) (Vm.Alike.refl U.vm) q3, q4, q5.warm (U := U.calling g mk b) (State.WarmedH.refl U)⟩

theorem eX0_init : yX0_init.cls ≠ "java/lang/invoke/MethodHandle" ∧ yX0_init.cls ≠ "java/lang/invoke/VarHandle" ∧ (parseMethodDescriptor yX0_init.desc).map (fun d => d.parameters.length) = some 0 := by decide +kernel
set_option maxHeartbeats 4000000 in
set_option maxRecDepth 100000 in
theorem kX0_init (l : Launch) (D : va_G) (y : Nat → ClassId) (h : Nat) (sz : Nat) : Met l yX0_init zX0_init { frames := 1, cells := 3, slots := 180, locals := 12 } (va_Pc [.ref h] (preI D y [(h, .inr (0, [.null, .null, .null, .int 0, .int 0, .int 0]))] sz)) (va_Qv (fun _ : Unit => True) (fun _ T => ∃ (q1 q2 q3 : Nat), va_P D vwCl [(h, .inr (0, [.ref q1, .ref q2, .ref q3, .int 0, .int 0, .int (-1)])), (q1, .inl (y 0, 60, .inl (fun _ => 0))), (q2, .inl (y 0, 60, .inl (fun _ => 0))), (q3, .inl (y 0, 60, .inl (fun _ => 0)))] T.heap ∧ va_D (va_A [(h, .inr (0, [.null, .null, .null, .int 0, .int 0, .int 0]))] sz) [(h, .inr (0, [.ref q1, .ref q2, .ref q3, .int 0, .int 0, .int (-1)])), (q1, .inl (y 0, 60, .inl (fun _ => 0))), (q2, .inl (y 0, 60, .inl (fun _ => 0))), (q3, .inl (y 0, 60, .inl (fun _ => 0)))]) (va_A [(h, .inr (0, [.null, .null, .null, .int 0, .int 0, .int 0]))] sz)) 3 180 (va_A [(h, .inr (0, [.null, .null, .null, .int 0, .int 0, .int 0]))] sz) := by
  refine Met.ofW (cc := cX0_init) (maxL := 1) (ret := none) (by decide) rfl ?_
  intro p e s m args below meth c s₁ B hml hv
  obtain ⟨rfl, hsz, hP, hK, hD0, hNX⟩ := hv
  have hx := B.exec
  have hb := B.bytes
  have hr := B.returns
  have hts := atoms_spec (ws := zX0_init) B.pre
  have hown : s.vm.findClass RX0 = some m.cls := findClass_of_methodNamed B.named
  have hlocks := B.notSynchronized
  have hin : meth.name = "<init>" := (name_of_methodNamed B.named B.method).1
  subst hsz
  have l_oM := hts _ (List.mem_cons_of_mem _ aM_X0_3)
  have l_oI := hts _ (List.mem_cons_of_mem _ aI_objectInit)
  have l_oC := hts _ (List.mem_cons_of_mem _ aC_objectInit)
  have l_aint := hts _ (List.mem_cons_of_mem _ aA_int)
  have l_f9 := hts _ (List.mem_cons_of_mem _ aF_X0_9)
  have l_f15 := hts _ (List.mem_cons_of_mem _ aF_X0_15)
  have l_f18 := hts _ (List.mem_cons_of_mem _ aF_X0_18)
  have l_f21 := hts _ (List.mem_cons_of_mem _ aF_X0_21)
  have h_w : ∀ w ∈ wsX00, w.before _ s = true := fun w hw => hts w (List.mem_cons_of_mem _ (hwX0 w hw))
  have hD := hD0.self (sz := s.heap.size)
  generalize hAe : va_A [(h, .inr (0, [.null, .null, .null, .int 0, .int 0, .int 0]))] s.heap.size = A at hD ⊢
  have hA : ∀ q : Nat, s.heap.size ≤ q → A q := fun q h => by rw [← hAe]; exact Or.inr h
  have hS : va_S A s.heap s.heap [] := va_S.rf
  have hl := lv_entry ([.ref h]) (n := 1) (Nat.le_of_ble_eq_true rfl)
  rw [lg_entry_eq]
  generalize (lg_sl ([.ref h]) ++ List.replicate (1 - (lg_sl ([.ref h])).length) Slot.unset).toArray = ls at hl ⊢
  have hl : lv_has ls 1 [(0, .ref h)] := hl
  refine lv_aload_n hx hb dX0_init_0 rfl (lv_at hl 0 rfl) ?_
  refine W.objInit hx hb hown l_oM l_oI l_oC rfl (by rw [hml]; exact hl.1) rfl dX0_init_1 (Nat.le_of_ble_eq_true rfl) (Nat.le_of_ble_eq_true rfl) ?_
  refine W.eq (g2 := F0 m 4 ls []) rfl ?_
  refine lv_aload_n hx hb dX0_init_4 rfl (lv_at hl 0 rfl) ?_
  refine lv_bipush (v := 60) hx hb dX0_init_5 (by decide) ?_
  refine nwG_int (n := 60) hx hb l_aint hK hP hD hS hA (by decide) rfl (Nat.le_of_ble_eq_true rfl) (by show _ ≤ 3; omega) (by show _ ≤ 180; omega) dX0_init_7 (fun q1 H hP hD hS => ?_)
  refine W.widen (k := 1) (n := 60) (by omega) (by omega) ?_
  have hP : va_P D vwCl [(h, .inr (0, [.null, .null, .null, .int 0, .int 0, .int 0])), (q1, .inl (y 0, 60, .inl (fun _ => 0)))] H := hP
  have hD : va_D A [(h, .inr (0, [.null, .null, .null, .int 0, .int 0, .int 0])), (q1, .inl (y 0, 60, .inl (fun _ => 0)))] := hD
  refine va_putF (D := D) (ci := 0) (v := .ref q1) (ty := .array .int) (C := RX0) (T := TX0) (N := 6) hx hb h_w (fun _ h => h) tyX0 tyX0_ok nmX0 hown hK hP hD hS 0 rfl rfl 0 (by decide) l_f9 (fun _ h9 => h9) rfl hin rfl (by decide +kernel) rfl rfl (Nat.le_of_ble_eq_true rfl) dX0_init_9 (fun H locs hP hD hS => ?_)
  have hP : va_P D vwCl [(h, .inr (0, [.ref q1, .null, .null, .int 0, .int 0, .int 0])), (q1, .inl (y 0, 60, .inl (fun _ => 0)))] H := hP
  have hD : va_D A [(h, .inr (0, [.ref q1, .null, .null, .int 0, .int 0, .int 0])), (q1, .inl (y 0, 60, .inl (fun _ => 0)))] := hD
  refine lv_aload_n hx hb dX0_init_12 rfl (lv_at hl 0 rfl) ?_
  refine lv_bipush (v := 60) hx hb dX0_init_13 (by decide) ?_
  refine nwG_int (n := 60) hx hb l_aint hK hP hD hS hA (by decide) rfl (Nat.le_of_ble_eq_true rfl) (by show _ ≤ 3; omega) (by show _ ≤ 180; omega) dX0_init_15 (fun q2 H hP hD hS => ?_)
  refine W.widen (k := 2) (n := 120) (by omega) (by omega) ?_
  have hP : va_P D vwCl [(h, .inr (0, [.ref q1, .null, .null, .int 0, .int 0, .int 0])), (q1, .inl (y 0, 60, .inl (fun _ => 0))), (q2, .inl (y 0, 60, .inl (fun _ => 0)))] H := hP
  have hD : va_D A [(h, .inr (0, [.ref q1, .null, .null, .int 0, .int 0, .int 0])), (q1, .inl (y 0, 60, .inl (fun _ => 0))), (q2, .inl (y 0, 60, .inl (fun _ => 0)))] := hD
  refine va_putF (D := D) (ci := 0) (v := .ref q2) (ty := .array .int) (C := RX0) (T := TX0) (N := 6) hx hb h_w (fun _ h => h) tyX0 tyX0_ok nmX0 hown hK hP hD hS 0 rfl rfl 1 (by decide) l_f15 (fun _ h9 => h9) rfl hin rfl (by decide +kernel) rfl rfl (Nat.le_of_ble_eq_true rfl) dX0_init_17 (fun H locs hP hD hS => ?_)
  have hP : va_P D vwCl [(h, .inr (0, [.ref q1, .ref q2, .null, .int 0, .int 0, .int 0])), (q1, .inl (y 0, 60, .inl (fun _ => 0))), (q2, .inl (y 0, 60, .inl (fun _ => 0)))] H := hP
  have hD : va_D A [(h, .inr (0, [.ref q1, .ref q2, .null, .int 0, .int 0, .int 0])), (q1, .inl (y 0, 60, .inl (fun _ => 0))), (q2, .inl (y 0, 60, .inl (fun _ => 0)))] := hD
  refine lv_aload_n hx hb dX0_init_20 rfl (lv_at hl 0 rfl) ?_
  refine lv_bipush (v := 60) hx hb dX0_init_21 (by decide) ?_
  refine nwG_int (n := 60) hx hb l_aint hK hP hD hS hA (by decide) rfl (Nat.le_of_ble_eq_true rfl) (by show _ ≤ 3; omega) (by show _ ≤ 180; omega) dX0_init_23 (fun q3 H hP hD hS => ?_)
  refine W.widen (k := 3) (n := 180) (by omega) (by omega) ?_
  have hP : va_P D vwCl [(h, .inr (0, [.ref q1, .ref q2, .null, .int 0, .int 0, .int 0])), (q1, .inl (y 0, 60, .inl (fun _ => 0))), (q2, .inl (y 0, 60, .inl (fun _ => 0))), (q3, .inl (y 0, 60, .inl (fun _ => 0)))] H := hP
  have hD : va_D A [(h, .inr (0, [.ref q1, .ref q2, .null, .int 0, .int 0, .int 0])), (q1, .inl (y 0, 60, .inl (fun _ => 0))), (q2, .inl (y 0, 60, .inl (fun _ => 0))), (q3, .inl (y 0, 60, .inl (fun _ => 0)))] := hD
  refine va_putF (D := D) (ci := 0) (v := .ref q3) (ty := .array .int) (C := RX0) (T := TX0) (N := 6) hx hb h_w (fun _ h => h) tyX0 tyX0_ok nmX0 hown hK hP hD hS 0 rfl rfl 2 (by decide) l_f18 (fun _ h9 => h9) rfl hin rfl (by decide +kernel) rfl rfl (Nat.le_of_ble_eq_true rfl) dX0_init_25 (fun H locs hP hD hS => ?_)
  have hP : va_P D vwCl [(h, .inr (0, [.ref q1, .ref q2, .ref q3, .int 0, .int 0, .int 0])), (q1, .inl (y 0, 60, .inl (fun _ => 0))), (q2, .inl (y 0, 60, .inl (fun _ => 0))), (q3, .inl (y 0, 60, .inl (fun _ => 0)))] H := hP
  have hD : va_D A [(h, .inr (0, [.ref q1, .ref q2, .ref q3, .int 0, .int 0, .int 0])), (q1, .inl (y 0, 60, .inl (fun _ => 0))), (q2, .inl (y 0, 60, .inl (fun _ => 0))), (q3, .inl (y 0, 60, .inl (fun _ => 0)))] := hD
  refine lv_aload_n hx hb dX0_init_28 rfl (lv_at hl 0 rfl) ?_
  refine lv_iconst (v := (-1)) hx hb dX0_init_29 (by decide) ?_
  refine va_put (D := D) (ci := 0) (v := .int (-1)) (ty := .int) (C := RX0) (T := TX0) (N := 6) hx hb h_w (fun _ h => h) tyX0 tyX0_ok nmX0 hown hK hP hD hS 0 rfl rfl 5 (by decide) l_f21 (fun _ h9 => h9) rfl (by decide +kernel) rfl rfl (Nat.le_of_ble_eq_true rfl) dX0_init_30 (fun H locs hP hD hS => ?_)
  have hP : va_P D vwCl [(h, .inr (0, [.ref q1, .ref q2, .ref q3, .int 0, .int 0, .int (-1)])), (q1, .inl (y 0, 60, .inl (fun _ => 0))), (q2, .inl (y 0, 60, .inl (fun _ => 0))), (q3, .inl (y 0, 60, .inl (fun _ => 0)))] H := hP
  have hD : va_D A [(h, .inr (0, [.ref q1, .ref q2, .ref q3, .int 0, .int 0, .int (-1)])), (q1, .inl (y 0, 60, .inl (fun _ => 0))), (q2, .inl (y 0, 60, .inl (fun _ => 0))), (q3, .inl (y 0, 60, .inl (fun _ => 0)))] := hD
  exact W.vret hx hb hr (fun T hT hW => ⟨⟨(), rfl, trivial, q1, q2, q3, by rw [hT]; exact hP, hD⟩, hS.F hT⟩) hS.2.2 dX0_init_33
theorem eX1_init : yX1_init.cls ≠ "java/lang/invoke/MethodHandle" ∧ yX1_init.cls ≠ "java/lang/invoke/VarHandle" ∧ (parseMethodDescriptor yX1_init.desc).map (fun d => d.parameters.length) = some 0 := by decide +kernel
set_option maxHeartbeats 4000000 in
set_option maxRecDepth 100000 in
theorem kX1_init (l : Launch) (D : va_G) (y : Nat → ClassId) (h : Nat) (sz : Nat) : Met l yX1_init zX1_init { frames := 1, cells := 7, slots := 2400, locals := 12 } (va_Pc [.ref h] (preI D y [(h, .inr (1, [.null, .null, .null, .null, .null, .null, .null, .int 0]))] sz)) (va_Qv (fun _ : Unit => True) (fun _ T => ∃ (q1 q2 q3 q4 q5 q6 q7 : Nat), va_P D vwCl [(h, .inr (1, [.ref q1, .ref q2, .ref q3, .ref q4, .ref q5, .ref q6, .ref q7, .int 0])), (q1, .inl (y 0, 240, .inl (fun _ => 0))), (q2, .inl (y 0, 240, .inl (fun _ => 0))), (q3, .inl (y 0, 240, .inl (fun _ => 0))), (q4, .inl (y 0, 240, .inl (fun _ => 0))), (q5, .inl (y 0, 240, .inl (fun _ => 0))), (q6, .inl (y 0, 240, .inl (fun _ => 0))), (q7, .inl (y 2, 960, .inr (.inl (fun _ => 0))))] T.heap ∧ va_D (va_A [(h, .inr (1, [.null, .null, .null, .null, .null, .null, .null, .int 0]))] sz) [(h, .inr (1, [.ref q1, .ref q2, .ref q3, .ref q4, .ref q5, .ref q6, .ref q7, .int 0])), (q1, .inl (y 0, 240, .inl (fun _ => 0))), (q2, .inl (y 0, 240, .inl (fun _ => 0))), (q3, .inl (y 0, 240, .inl (fun _ => 0))), (q4, .inl (y 0, 240, .inl (fun _ => 0))), (q5, .inl (y 0, 240, .inl (fun _ => 0))), (q6, .inl (y 0, 240, .inl (fun _ => 0))), (q7, .inl (y 2, 960, .inr (.inl (fun _ => 0))))]) (va_A [(h, .inr (1, [.null, .null, .null, .null, .null, .null, .null, .int 0]))] sz)) 7 2400 (va_A [(h, .inr (1, [.null, .null, .null, .null, .null, .null, .null, .int 0]))] sz) := by
  refine Met.ofW (cc := cX1_init) (maxL := 1) (ret := none) (by decide) rfl ?_
  intro p e s m args below meth c s₁ B hml hv
  obtain ⟨rfl, hsz, hP, hK, hD0, hNX⟩ := hv
  have hx := B.exec
  have hb := B.bytes
  have hr := B.returns
  have hts := atoms_spec (ws := zX1_init) B.pre
  have hown : s.vm.findClass RX1 = some m.cls := findClass_of_methodNamed B.named
  have hlocks := B.notSynchronized
  have hin : meth.name = "<init>" := (name_of_methodNamed B.named B.method).1
  subst hsz
  have l_oM := hts _ (List.mem_cons_of_mem _ aM_X1_3)
  have l_oI := hts _ (List.mem_cons_of_mem _ aI_objectInit)
  have l_oC := hts _ (List.mem_cons_of_mem _ aC_objectInit)
  have l_aint := hts _ (List.mem_cons_of_mem _ aA_int)
  have l_f9 := hts _ (List.mem_cons_of_mem _ aF_X1_9)
  have l_f15 := hts _ (List.mem_cons_of_mem _ aF_X1_15)
  have l_f18 := hts _ (List.mem_cons_of_mem _ aF_X1_18)
  have l_f21 := hts _ (List.mem_cons_of_mem _ aF_X1_21)
  have l_f24 := hts _ (List.mem_cons_of_mem _ aF_X1_24)
  have l_f27 := hts _ (List.mem_cons_of_mem _ aF_X1_27)
  have l_along := hts _ (List.mem_cons_of_mem _ aA_long)
  have l_f30 := hts _ (List.mem_cons_of_mem _ aF_X1_30)
  have h_w : ∀ w ∈ wsX10, w.before _ s = true := fun w hw => hts w (List.mem_cons_of_mem _ (hwX1 w hw))
  have hD := hD0.self (sz := s.heap.size)
  generalize hAe : va_A [(h, .inr (1, [.null, .null, .null, .null, .null, .null, .null, .int 0]))] s.heap.size = A at hD ⊢
  have hA : ∀ q : Nat, s.heap.size ≤ q → A q := fun q h => by rw [← hAe]; exact Or.inr h
  have hS : va_S A s.heap s.heap [] := va_S.rf
  have hl := lv_entry ([.ref h]) (n := 1) (Nat.le_of_ble_eq_true rfl)
  rw [lg_entry_eq]
  generalize (lg_sl ([.ref h]) ++ List.replicate (1 - (lg_sl ([.ref h])).length) Slot.unset).toArray = ls at hl ⊢
  have hl : lv_has ls 1 [(0, .ref h)] := hl
  refine lv_aload_n hx hb dX1_init_0 rfl (lv_at hl 0 rfl) ?_
  refine W.objInit hx hb hown l_oM l_oI l_oC rfl (by rw [hml]; exact hl.1) rfl dX1_init_1 (Nat.le_of_ble_eq_true rfl) (Nat.le_of_ble_eq_true rfl) ?_
  refine W.eq (g2 := F0 m 4 ls []) rfl ?_
  refine lv_aload_n hx hb dX1_init_4 rfl (lv_at hl 0 rfl) ?_
  refine lv_sipush (v := 240) hx hb dX1_init_5 (by decide) ?_
  refine nwG_int (n := 240) hx hb l_aint hK hP hD hS hA (by decide) rfl (Nat.le_of_ble_eq_true rfl) (by show _ ≤ 7; omega) (by show _ ≤ 2400; omega) dX1_init_8 (fun q1 H hP hD hS => ?_)
  refine W.widen (k := 1) (n := 240) (by omega) (by omega) ?_
  have hP : va_P D vwCl [(h, .inr (1, [.null, .null, .null, .null, .null, .null, .null, .int 0])), (q1, .inl (y 0, 240, .inl (fun _ => 0)))] H := hP
  have hD : va_D A [(h, .inr (1, [.null, .null, .null, .null, .null, .null, .null, .int 0])), (q1, .inl (y 0, 240, .inl (fun _ => 0)))] := hD
  refine va_putF (D := D) (ci := 1) (v := .ref q1) (ty := .array .int) (C := RX1) (T := TX1) (N := 8) hx hb h_w (fun _ h => h) tyX1 tyX1_ok nmX1 hown hK hP hD hS 0 rfl rfl 0 (by decide) l_f9 (fun _ h9 => h9) rfl hin rfl (by decide +kernel) rfl rfl (Nat.le_of_ble_eq_true rfl) dX1_init_10 (fun H locs hP hD hS => ?_)
  have hP : va_P D vwCl [(h, .inr (1, [.ref q1, .null, .null, .null, .null, .null, .null, .int 0])), (q1, .inl (y 0, 240, .inl (fun _ => 0)))] H := hP
  have hD : va_D A [(h, .inr (1, [.ref q1, .null, .null, .null, .null, .null, .null, .int 0])), (q1, .inl (y 0, 240, .inl (fun _ => 0)))] := hD
  refine lv_aload_n hx hb dX1_init_13 rfl (lv_at hl 0 rfl) ?_
  refine lv_sipush (v := 240) hx hb dX1_init_14 (by decide) ?_
  refine nwG_int (n := 240) hx hb l_aint hK hP hD hS hA (by decide) rfl (Nat.le_of_ble_eq_true rfl) (by show _ ≤ 7; omega) (by show _ ≤ 2400; omega) dX1_init_17 (fun q2 H hP hD hS => ?_)
  refine W.widen (k := 2) (n := 480) (by omega) (by omega) ?_
  have hP : va_P D vwCl [(h, .inr (1, [.ref q1, .null, .null, .null, .null, .null, .null, .int 0])), (q1, .inl (y 0, 240, .inl (fun _ => 0))), (q2, .inl (y 0, 240, .inl (fun _ => 0)))] H := hP
  have hD : va_D A [(h, .inr (1, [.ref q1, .null, .null, .null, .null, .null, .null, .int 0])), (q1, .inl (y 0, 240, .inl (fun _ => 0))), (q2, .inl (y 0, 240, .inl (fun _ => 0)))] := hD
  refine va_putF (D := D) (ci := 1) (v := .ref q2) (ty := .array .int) (C := RX1) (T := TX1) (N := 8) hx hb h_w (fun _ h => h) tyX1 tyX1_ok nmX1 hown hK hP hD hS 0 rfl rfl 1 (by decide) l_f15 (fun _ h9 => h9) rfl hin rfl (by decide +kernel) rfl rfl (Nat.le_of_ble_eq_true rfl) dX1_init_19 (fun H locs hP hD hS => ?_)
  have hP : va_P D vwCl [(h, .inr (1, [.ref q1, .ref q2, .null, .null, .null, .null, .null, .int 0])), (q1, .inl (y 0, 240, .inl (fun _ => 0))), (q2, .inl (y 0, 240, .inl (fun _ => 0)))] H := hP
  have hD : va_D A [(h, .inr (1, [.ref q1, .ref q2, .null, .null, .null, .null, .null, .int 0])), (q1, .inl (y 0, 240, .inl (fun _ => 0))), (q2, .inl (y 0, 240, .inl (fun _ => 0)))] := hD
  refine lv_aload_n hx hb dX1_init_22 rfl (lv_at hl 0 rfl) ?_
  refine lv_sipush (v := 240) hx hb dX1_init_23 (by decide) ?_
  refine nwG_int (n := 240) hx hb l_aint hK hP hD hS hA (by decide) rfl (Nat.le_of_ble_eq_true rfl) (by show _ ≤ 7; omega) (by show _ ≤ 2400; omega) dX1_init_26 (fun q3 H hP hD hS => ?_)
  refine W.widen (k := 3) (n := 720) (by omega) (by omega) ?_
  have hP : va_P D vwCl [(h, .inr (1, [.ref q1, .ref q2, .null, .null, .null, .null, .null, .int 0])), (q1, .inl (y 0, 240, .inl (fun _ => 0))), (q2, .inl (y 0, 240, .inl (fun _ => 0))), (q3, .inl (y 0, 240, .inl (fun _ => 0)))] H := hP
  have hD : va_D A [(h, .inr (1, [.ref q1, .ref q2, .null, .null, .null, .null, .null, .int 0])), (q1, .inl (y 0, 240, .inl (fun _ => 0))), (q2, .inl (y 0, 240, .inl (fun _ => 0))), (q3, .inl (y 0, 240, .inl (fun _ => 0)))] := hD
  refine va_putF (D := D) (ci := 1) (v := .ref q3) (ty := .array .int) (C := RX1) (T := TX1) (N := 8) hx hb h_w (fun _ h => h) tyX1 tyX1_ok nmX1 hown hK hP hD hS 0 rfl rfl 2 (by decide) l_f18 (fun _ h9 => h9) rfl hin rfl (by decide +kernel) rfl rfl (Nat.le_of_ble_eq_true rfl) dX1_init_28 (fun H locs hP hD hS => ?_)
  have hP : va_P D vwCl [(h, .inr (1, [.ref q1, .ref q2, .ref q3, .null, .null, .null, .null, .int 0])), (q1, .inl (y 0, 240, .inl (fun _ => 0))), (q2, .inl (y 0, 240, .inl (fun _ => 0))), (q3, .inl (y 0, 240, .inl (fun _ => 0)))] H := hP
  have hD : va_D A [(h, .inr (1, [.ref q1, .ref q2, .ref q3, .null, .null, .null, .null, .int 0])), (q1, .inl (y 0, 240, .inl (fun _ => 0))), (q2, .inl (y 0, 240, .inl (fun _ => 0))), (q3, .inl (y 0, 240, .inl (fun _ => 0)))] := hD
  refine lv_aload_n hx hb dX1_init_31 rfl (lv_at hl 0 rfl) ?_
  refine lv_sipush (v := 240) hx hb dX1_init_32 (by decide) ?_
  refine nwG_int (n := 240) hx hb l_aint hK hP hD hS hA (by decide) rfl (Nat.le_of_ble_eq_true rfl) (by show _ ≤ 7; omega) (by show _ ≤ 2400; omega) dX1_init_35 (fun q4 H hP hD hS => ?_)
  refine W.widen (k := 4) (n := 960) (by omega) (by omega) ?_
  have hP : va_P D vwCl [(h, .inr (1, [.ref q1, .ref q2, .ref q3, .null, .null, .null, .null, .int 0])), (q1, .inl (y 0, 240, .inl (fun _ => 0))), (q2, .inl (y 0, 240, .inl (fun _ => 0))), (q3, .inl (y 0, 240, .inl (fun _ => 0))), (q4, .inl (y 0, 240, .inl (fun _ => 0)))] H := hP
  have hD : va_D A [(h, .inr (1, [.ref q1, .ref q2, .ref q3, .null, .null, .null, .null, .int 0])), (q1, .inl (y 0, 240, .inl (fun _ => 0))), (q2, .inl (y 0, 240, .inl (fun _ => 0))), (q3, .inl (y 0, 240, .inl (fun _ => 0))), (q4, .inl (y 0, 240, .inl (fun _ => 0)))] := hD
  refine va_putF (D := D) (ci := 1) (v := .ref q4) (ty := .array .int) (C := RX1) (T := TX1) (N := 8) hx hb h_w (fun _ h => h) tyX1 tyX1_ok nmX1 hown hK hP hD hS 0 rfl rfl 3 (by decide) l_f21 (fun _ h9 => h9) rfl hin rfl (by decide +kernel) rfl rfl (Nat.le_of_ble_eq_true rfl) dX1_init_37 (fun H locs hP hD hS => ?_)
  have hP : va_P D vwCl [(h, .inr (1, [.ref q1, .ref q2, .ref q3, .ref q4, .null, .null, .null, .int 0])), (q1, .inl (y 0, 240, .inl (fun _ => 0))), (q2, .inl (y 0, 240, .inl (fun _ => 0))), (q3, .inl (y 0, 240, .inl (fun _ => 0))), (q4, .inl (y 0, 240, .inl (fun _ => 0)))] H := hP
  have hD : va_D A [(h, .inr (1, [.ref q1, .ref q2, .ref q3, .ref q4, .null, .null, .null, .int 0])), (q1, .inl (y 0, 240, .inl (fun _ => 0))), (q2, .inl (y 0, 240, .inl (fun _ => 0))), (q3, .inl (y 0, 240, .inl (fun _ => 0))), (q4, .inl (y 0, 240, .inl (fun _ => 0)))] := hD
  refine lv_aload_n hx hb dX1_init_40 rfl (lv_at hl 0 rfl) ?_
  refine lv_sipush (v := 240) hx hb dX1_init_41 (by decide) ?_
  refine nwG_int (n := 240) hx hb l_aint hK hP hD hS hA (by decide) rfl (Nat.le_of_ble_eq_true rfl) (by show _ ≤ 7; omega) (by show _ ≤ 2400; omega) dX1_init_44 (fun q5 H hP hD hS => ?_)
  refine W.widen (k := 5) (n := 1200) (by omega) (by omega) ?_
  have hP : va_P D vwCl [(h, .inr (1, [.ref q1, .ref q2, .ref q3, .ref q4, .null, .null, .null, .int 0])), (q1, .inl (y 0, 240, .inl (fun _ => 0))), (q2, .inl (y 0, 240, .inl (fun _ => 0))), (q3, .inl (y 0, 240, .inl (fun _ => 0))), (q4, .inl (y 0, 240, .inl (fun _ => 0))), (q5, .inl (y 0, 240, .inl (fun _ => 0)))] H := hP
  have hD : va_D A [(h, .inr (1, [.ref q1, .ref q2, .ref q3, .ref q4, .null, .null, .null, .int 0])), (q1, .inl (y 0, 240, .inl (fun _ => 0))), (q2, .inl (y 0, 240, .inl (fun _ => 0))), (q3, .inl (y 0, 240, .inl (fun _ => 0))), (q4, .inl (y 0, 240, .inl (fun _ => 0))), (q5, .inl (y 0, 240, .inl (fun _ => 0)))] := hD
  refine va_putF (D := D) (ci := 1) (v := .ref q5) (ty := .array .int) (C := RX1) (T := TX1) (N := 8) hx hb h_w (fun _ h => h) tyX1 tyX1_ok nmX1 hown hK hP hD hS 0 rfl rfl 4 (by decide) l_f24 (fun _ h9 => h9) rfl hin rfl (by decide +kernel) rfl rfl (Nat.le_of_ble_eq_true rfl) dX1_init_46 (fun H locs hP hD hS => ?_)
  have hP : va_P D vwCl [(h, .inr (1, [.ref q1, .ref q2, .ref q3, .ref q4, .ref q5, .null, .null, .int 0])), (q1, .inl (y 0, 240, .inl (fun _ => 0))), (q2, .inl (y 0, 240, .inl (fun _ => 0))), (q3, .inl (y 0, 240, .inl (fun _ => 0))), (q4, .inl (y 0, 240, .inl (fun _ => 0))), (q5, .inl (y 0, 240, .inl (fun _ => 0)))] H := hP
  have hD : va_D A [(h, .inr (1, [.ref q1, .ref q2, .ref q3, .ref q4, .ref q5, .null, .null, .int 0])), (q1, .inl (y 0, 240, .inl (fun _ => 0))), (q2, .inl (y 0, 240, .inl (fun _ => 0))), (q3, .inl (y 0, 240, .inl (fun _ => 0))), (q4, .inl (y 0, 240, .inl (fun _ => 0))), (q5, .inl (y 0, 240, .inl (fun _ => 0)))] := hD
  refine lv_aload_n hx hb dX1_init_49 rfl (lv_at hl 0 rfl) ?_
  refine lv_sipush (v := 240) hx hb dX1_init_50 (by decide) ?_
  refine nwG_int (n := 240) hx hb l_aint hK hP hD hS hA (by decide) rfl (Nat.le_of_ble_eq_true rfl) (by show _ ≤ 7; omega) (by show _ ≤ 2400; omega) dX1_init_53 (fun q6 H hP hD hS => ?_)
  refine W.widen (k := 6) (n := 1440) (by omega) (by omega) ?_
  have hP : va_P D vwCl [(h, .inr (1, [.ref q1, .ref q2, .ref q3, .ref q4, .ref q5, .null, .null, .int 0])), (q1, .inl (y 0, 240, .inl (fun _ => 0))), (q2, .inl (y 0, 240, .inl (fun _ => 0))), (q3, .inl (y 0, 240, .inl (fun _ => 0))), (q4, .inl (y 0, 240, .inl (fun _ => 0))), (q5, .inl (y 0, 240, .inl (fun _ => 0))), (q6, .inl (y 0, 240, .inl (fun _ => 0)))] H := hP
  have hD : va_D A [(h, .inr (1, [.ref q1, .ref q2, .ref q3, .ref q4, .ref q5, .null, .null, .int 0])), (q1, .inl (y 0, 240, .inl (fun _ => 0))), (q2, .inl (y 0, 240, .inl (fun _ => 0))), (q3, .inl (y 0, 240, .inl (fun _ => 0))), (q4, .inl (y 0, 240, .inl (fun _ => 0))), (q5, .inl (y 0, 240, .inl (fun _ => 0))), (q6, .inl (y 0, 240, .inl (fun _ => 0)))] := hD
  refine va_putF (D := D) (ci := 1) (v := .ref q6) (ty := .array .int) (C := RX1) (T := TX1) (N := 8) hx hb h_w (fun _ h => h) tyX1 tyX1_ok nmX1 hown hK hP hD hS 0 rfl rfl 5 (by decide) l_f27 (fun _ h9 => h9) rfl hin rfl (by decide +kernel) rfl rfl (Nat.le_of_ble_eq_true rfl) dX1_init_55 (fun H locs hP hD hS => ?_)
  have hP : va_P D vwCl [(h, .inr (1, [.ref q1, .ref q2, .ref q3, .ref q4, .ref q5, .ref q6, .null, .int 0])), (q1, .inl (y 0, 240, .inl (fun _ => 0))), (q2, .inl (y 0, 240, .inl (fun _ => 0))), (q3, .inl (y 0, 240, .inl (fun _ => 0))), (q4, .inl (y 0, 240, .inl (fun _ => 0))), (q5, .inl (y 0, 240, .inl (fun _ => 0))), (q6, .inl (y 0, 240, .inl (fun _ => 0)))] H := hP
  have hD : va_D A [(h, .inr (1, [.ref q1, .ref q2, .ref q3, .ref q4, .ref q5, .ref q6, .null, .int 0])), (q1, .inl (y 0, 240, .inl (fun _ => 0))), (q2, .inl (y 0, 240, .inl (fun _ => 0))), (q3, .inl (y 0, 240, .inl (fun _ => 0))), (q4, .inl (y 0, 240, .inl (fun _ => 0))), (q5, .inl (y 0, 240, .inl (fun _ => 0))), (q6, .inl (y 0, 240, .inl (fun _ => 0)))] := hD
  refine lv_aload_n hx hb dX1_init_58 rfl (lv_at hl 0 rfl) ?_
  refine lv_sipush (v := 960) hx hb dX1_init_59 (by decide) ?_
  refine nwG_long (n := 960) hx hb l_along hK hP hD hS hA (by decide) rfl (Nat.le_of_ble_eq_true rfl) (by show _ ≤ 7; omega) (by show _ ≤ 2400; omega) dX1_init_62 (fun q7 H hP hD hS => ?_)
  refine W.widen (k := 7) (n := 2400) (by omega) (by omega) ?_
  have hP : va_P D vwCl [(h, .inr (1, [.ref q1, .ref q2, .ref q3, .ref q4, .ref q5, .ref q6, .null, .int 0])), (q1, .inl (y 0, 240, .inl (fun _ => 0))), (q2, .inl (y 0, 240, .inl (fun _ => 0))), (q3, .inl (y 0, 240, .inl (fun _ => 0))), (q4, .inl (y 0, 240, .inl (fun _ => 0))), (q5, .inl (y 0, 240, .inl (fun _ => 0))), (q6, .inl (y 0, 240, .inl (fun _ => 0))), (q7, .inl (y 2, 960, .inr (.inl (fun _ => 0))))] H := hP
  have hD : va_D A [(h, .inr (1, [.ref q1, .ref q2, .ref q3, .ref q4, .ref q5, .ref q6, .null, .int 0])), (q1, .inl (y 0, 240, .inl (fun _ => 0))), (q2, .inl (y 0, 240, .inl (fun _ => 0))), (q3, .inl (y 0, 240, .inl (fun _ => 0))), (q4, .inl (y 0, 240, .inl (fun _ => 0))), (q5, .inl (y 0, 240, .inl (fun _ => 0))), (q6, .inl (y 0, 240, .inl (fun _ => 0))), (q7, .inl (y 2, 960, .inr (.inl (fun _ => 0))))] := hD
  refine va_putF (D := D) (ci := 1) (v := .ref q7) (ty := .array .long) (C := RX1) (T := TX1) (N := 8) hx hb h_w (fun _ h => h) tyX1 tyX1_ok nmX1 hown hK hP hD hS 0 rfl rfl 6 (by decide) l_f30 (fun _ h9 => h9) rfl hin rfl (by decide +kernel) rfl rfl (Nat.le_of_ble_eq_true rfl) dX1_init_64 (fun H locs hP hD hS => ?_)
  have hP : va_P D vwCl [(h, .inr (1, [.ref q1, .ref q2, .ref q3, .ref q4, .ref q5, .ref q6, .ref q7, .int 0])), (q1, .inl (y 0, 240, .inl (fun _ => 0))), (q2, .inl (y 0, 240, .inl (fun _ => 0))), (q3, .inl (y 0, 240, .inl (fun _ => 0))), (q4, .inl (y 0, 240, .inl (fun _ => 0))), (q5, .inl (y 0, 240, .inl (fun _ => 0))), (q6, .inl (y 0, 240, .inl (fun _ => 0))), (q7, .inl (y 2, 960, .inr (.inl (fun _ => 0))))] H := hP
  have hD : va_D A [(h, .inr (1, [.ref q1, .ref q2, .ref q3, .ref q4, .ref q5, .ref q6, .ref q7, .int 0])), (q1, .inl (y 0, 240, .inl (fun _ => 0))), (q2, .inl (y 0, 240, .inl (fun _ => 0))), (q3, .inl (y 0, 240, .inl (fun _ => 0))), (q4, .inl (y 0, 240, .inl (fun _ => 0))), (q5, .inl (y 0, 240, .inl (fun _ => 0))), (q6, .inl (y 0, 240, .inl (fun _ => 0))), (q7, .inl (y 2, 960, .inr (.inl (fun _ => 0))))] := hD
  exact W.vret hx hb hr (fun T hT hW => ⟨⟨(), rfl, trivial, q1, q2, q3, q4, q5, q6, q7, by rw [hT]; exact hP, hD⟩, hS.F hT⟩) hS.2.2 dX1_init_67
theorem eX2_init : yX2_init.cls ≠ "java/lang/invoke/MethodHandle" ∧ yX2_init.cls ≠ "java/lang/invoke/VarHandle" ∧ (parseMethodDescriptor yX2_init.desc).map (fun d => d.parameters.length) = some 1 := by decide +kernel
set_option maxHeartbeats 4000000 in
set_option maxRecDepth 100000 in
theorem kX2_init (l : Launch) (D : va_G) (y : Nat → ClassId) (h g1 : Nat) (sz : Nat) : Met l yX2_init zX2_init { frames := 1, cells := 3, slots := 1200, locals := 12 } (va_Pc [.ref h, .ref g1] (preI D y [(h, .inr (2, [.null, .null, .null, .null, .int 0, .int 0]))] sz)) (va_Qv (fun _ : Unit => True) (fun _ T => ∃ (q1 q2 q3 : Nat), va_P D vwCl [(h, .inr (2, [.ref g1, .ref q1, .ref q2, .ref q3, .int 0, .int 0])), (q1, .inl (y 1, 400, .inl (fun _ => 0))), (q2, .inl (y 0, 400, .inl (fun _ => 0))), (q3, .inl (y 0, 400, .inl (fun _ => 0)))] T.heap ∧ va_D (va_A [(h, .inr (2, [.null, .null, .null, .null, .int 0, .int 0]))] sz) [(h, .inr (2, [.ref g1, .ref q1, .ref q2, .ref q3, .int 0, .int 0])), (q1, .inl (y 1, 400, .inl (fun _ => 0))), (q2, .inl (y 0, 400, .inl (fun _ => 0))), (q3, .inl (y 0, 400, .inl (fun _ => 0)))]) (va_A [(h, .inr (2, [.null, .null, .null, .null, .int 0, .int 0]))] sz)) 3 1200 (va_A [(h, .inr (2, [.null, .null, .null, .null, .int 0, .int 0]))] sz) := by
  refine Met.ofW (cc := cX2_init) (maxL := 2) (ret := none) (by decide) rfl ?_
  intro p e s m args below meth c s₁ B hml hv
  obtain ⟨rfl, hsz, hP, hK, hD0, hNX⟩ := hv
  have hx := B.exec
  have hb := B.bytes
  have hr := B.returns
  have hts := atoms_spec (ws := zX2_init) B.pre
  have hown : s.vm.findClass RX2 = some m.cls := findClass_of_methodNamed B.named
  have hlocks := B.notSynchronized
  have hin : meth.name = "<init>" := (name_of_methodNamed B.named B.method).1
  subst hsz
  have l_oM := hts _ (List.mem_cons_of_mem _ aM_X2_3)
  have l_oI := hts _ (List.mem_cons_of_mem _ aI_objectInit)
  have l_oC := hts _ (List.mem_cons_of_mem _ aC_objectInit)
  have l_abyte := hts _ (List.mem_cons_of_mem _ aA_byte)
  have l_f9 := hts _ (List.mem_cons_of_mem _ aF_X2_9)
  have l_aint := hts _ (List.mem_cons_of_mem _ aA_int)
  have l_f15 := hts _ (List.mem_cons_of_mem _ aF_X2_15)
  have l_f19 := hts _ (List.mem_cons_of_mem _ aF_X2_19)
  have l_f22 := hts _ (List.mem_cons_of_mem _ aF_X2_22)
  have h_w : ∀ w ∈ wsX20, w.before _ s = true := fun w hw => hts w (List.mem_cons_of_mem _ (hwX2 w hw))
  have hD := hD0.self (sz := s.heap.size)
  generalize hAe : va_A [(h, .inr (2, [.null, .null, .null, .null, .int 0, .int 0]))] s.heap.size = A at hD ⊢
  have hA : ∀ q : Nat, s.heap.size ≤ q → A q := fun q h => by rw [← hAe]; exact Or.inr h
  have hS : va_S A s.heap s.heap [] := va_S.rf
  have hl := lv_entry ([.ref h, .ref g1]) (n := 2) (Nat.le_of_ble_eq_true rfl)
  rw [lg_entry_eq]
  generalize (lg_sl ([.ref h, .ref g1]) ++ List.replicate (2 - (lg_sl ([.ref h, .ref g1])).length) Slot.unset).toArray = ls at hl ⊢
  have hl : lv_has ls 2 [(0, .ref h), (1, .ref g1)] := hl
  refine lv_aload_n hx hb dX2_init_0 rfl (lv_at hl 0 rfl) ?_
  refine W.objInit hx hb hown l_oM l_oI l_oC rfl (by rw [hml]; exact hl.1) rfl dX2_init_1 (Nat.le_of_ble_eq_true rfl) (Nat.le_of_ble_eq_true rfl) ?_
  refine W.eq (g2 := F0 m 4 ls []) rfl ?_
  refine lv_aload_n hx hb dX2_init_4 rfl (lv_at hl 0 rfl) ?_
  refine lv_sipush (v := 400) hx hb dX2_init_5 (by decide) ?_
  refine nwG_byte (n := 400) hx hb l_abyte hK hP hD hS hA (by decide) rfl (Nat.le_of_ble_eq_true rfl) (by show _ ≤ 3; omega) (by show _ ≤ 1200; omega) dX2_init_8 (fun q1 H hP hD hS => ?_)
  refine W.widen (k := 1) (n := 400) (by omega) (by omega) ?_
  have hP : va_P D vwCl [(h, .inr (2, [.null, .null, .null, .null, .int 0, .int 0])), (q1, .inl (y 1, 400, .inl (fun _ => 0)))] H := hP
  have hD : va_D A [(h, .inr (2, [.null, .null, .null, .null, .int 0, .int 0])), (q1, .inl (y 1, 400, .inl (fun _ => 0)))] := hD
  refine va_putF (D := D) (ci := 2) (v := .ref q1) (ty := .array .byte) (C := RX2) (T := TX2) (N := 6) hx hb h_w (fun _ h => h) tyX2 tyX2_ok nmX2 hown hK hP hD hS 0 rfl rfl 1 (by decide) l_f9 (fun _ h9 => h9) rfl hin rfl (by decide +kernel) rfl rfl (Nat.le_of_ble_eq_true rfl) dX2_init_10 (fun H locs hP hD hS => ?_)
  have hP : va_P D vwCl [(h, .inr (2, [.null, .ref q1, .null, .null, .int 0, .int 0])), (q1, .inl (y 1, 400, .inl (fun _ => 0)))] H := hP
  have hD : va_D A [(h, .inr (2, [.null, .ref q1, .null, .null, .int 0, .int 0])), (q1, .inl (y 1, 400, .inl (fun _ => 0)))] := hD
  refine lv_aload_n hx hb dX2_init_13 rfl (lv_at hl 0 rfl) ?_
  refine lv_sipush (v := 400) hx hb dX2_init_14 (by decide) ?_
  refine nwG_int (n := 400) hx hb l_aint hK hP hD hS hA (by decide) rfl (Nat.le_of_ble_eq_true rfl) (by show _ ≤ 3; omega) (by show _ ≤ 1200; omega) dX2_init_17 (fun q2 H hP hD hS => ?_)
  refine W.widen (k := 2) (n := 800) (by omega) (by omega) ?_
  have hP : va_P D vwCl [(h, .inr (2, [.null, .ref q1, .null, .null, .int 0, .int 0])), (q1, .inl (y 1, 400, .inl (fun _ => 0))), (q2, .inl (y 0, 400, .inl (fun _ => 0)))] H := hP
  have hD : va_D A [(h, .inr (2, [.null, .ref q1, .null, .null, .int 0, .int 0])), (q1, .inl (y 1, 400, .inl (fun _ => 0))), (q2, .inl (y 0, 400, .inl (fun _ => 0)))] := hD
  refine va_putF (D := D) (ci := 2) (v := .ref q2) (ty := .array .int) (C := RX2) (T := TX2) (N := 6) hx hb h_w (fun _ h => h) tyX2 tyX2_ok nmX2 hown hK hP hD hS 0 rfl rfl 2 (by decide) l_f15 (fun _ h9 => h9) rfl hin rfl (by decide +kernel) rfl rfl (Nat.le_of_ble_eq_true rfl) dX2_init_19 (fun H locs hP hD hS => ?_)
  have hP : va_P D vwCl [(h, .inr (2, [.null, .ref q1, .ref q2, .null, .int 0, .int 0])), (q1, .inl (y 1, 400, .inl (fun _ => 0))), (q2, .inl (y 0, 400, .inl (fun _ => 0)))] H := hP
  have hD : va_D A [(h, .inr (2, [.null, .ref q1, .ref q2, .null, .int 0, .int 0])), (q1, .inl (y 1, 400, .inl (fun _ => 0))), (q2, .inl (y 0, 400, .inl (fun _ => 0)))] := hD
  refine lv_aload_n hx hb dX2_init_22 rfl (lv_at hl 0 rfl) ?_
  refine lv_sipush (v := 400) hx hb dX2_init_23 (by decide) ?_
  refine nwG_int (n := 400) hx hb l_aint hK hP hD hS hA (by decide) rfl (Nat.le_of_ble_eq_true rfl) (by show _ ≤ 3; omega) (by show _ ≤ 1200; omega) dX2_init_26 (fun q3 H hP hD hS => ?_)
  refine W.widen (k := 3) (n := 1200) (by omega) (by omega) ?_
  have hP : va_P D vwCl [(h, .inr (2, [.null, .ref q1, .ref q2, .null, .int 0, .int 0])), (q1, .inl (y 1, 400, .inl (fun _ => 0))), (q2, .inl (y 0, 400, .inl (fun _ => 0))), (q3, .inl (y 0, 400, .inl (fun _ => 0)))] H := hP
  have hD : va_D A [(h, .inr (2, [.null, .ref q1, .ref q2, .null, .int 0, .int 0])), (q1, .inl (y 1, 400, .inl (fun _ => 0))), (q2, .inl (y 0, 400, .inl (fun _ => 0))), (q3, .inl (y 0, 400, .inl (fun _ => 0)))] := hD
  refine va_putF (D := D) (ci := 2) (v := .ref q3) (ty := .array .int) (C := RX2) (T := TX2) (N := 6) hx hb h_w (fun _ h => h) tyX2 tyX2_ok nmX2 hown hK hP hD hS 0 rfl rfl 3 (by decide) l_f19 (fun _ h9 => h9) rfl hin rfl (by decide +kernel) rfl rfl (Nat.le_of_ble_eq_true rfl) dX2_init_28 (fun H locs hP hD hS => ?_)
  have hP : va_P D vwCl [(h, .inr (2, [.null, .ref q1, .ref q2, .ref q3, .int 0, .int 0])), (q1, .inl (y 1, 400, .inl (fun _ => 0))), (q2, .inl (y 0, 400, .inl (fun _ => 0))), (q3, .inl (y 0, 400, .inl (fun _ => 0)))] H := hP
  have hD : va_D A [(h, .inr (2, [.null, .ref q1, .ref q2, .ref q3, .int 0, .int 0])), (q1, .inl (y 1, 400, .inl (fun _ => 0))), (q2, .inl (y 0, 400, .inl (fun _ => 0))), (q3, .inl (y 0, 400, .inl (fun _ => 0)))] := hD
  refine lv_aload_n hx hb dX2_init_31 rfl (lv_at hl 0 rfl) ?_
  refine lv_aload_n hx hb dX2_init_32 rfl (lv_at hl 1 rfl) ?_
  refine va_putF (D := D) (ci := 2) (v := .ref g1) (ty := .object "ProofDesk$Formulas") (C := RX2) (T := TX2) (N := 6) hx hb h_w (fun _ h => h) tyX2 tyX2_ok nmX2 hown hK hP hD hS 0 rfl rfl 0 (by decide) l_f22 (fun _ h9 => h9) rfl hin rfl (by decide +kernel) rfl rfl (Nat.le_of_ble_eq_true rfl) dX2_init_33 (fun H locs hP hD hS => ?_)
  have hP : va_P D vwCl [(h, .inr (2, [.ref g1, .ref q1, .ref q2, .ref q3, .int 0, .int 0])), (q1, .inl (y 1, 400, .inl (fun _ => 0))), (q2, .inl (y 0, 400, .inl (fun _ => 0))), (q3, .inl (y 0, 400, .inl (fun _ => 0)))] H := hP
  have hD : va_D A [(h, .inr (2, [.ref g1, .ref q1, .ref q2, .ref q3, .int 0, .int 0])), (q1, .inl (y 1, 400, .inl (fun _ => 0))), (q2, .inl (y 0, 400, .inl (fun _ => 0))), (q3, .inl (y 0, 400, .inl (fun _ => 0)))] := hD
  exact W.vret hx hb hr (fun T hT hW => ⟨⟨(), rfl, trivial, q1, q2, q3, by rw [hT]; exact hP, hD⟩, hS.F hT⟩) hS.2.2 dX2_init_36
theorem eX4_init : yX4_init.cls ≠ "java/lang/invoke/MethodHandle" ∧ yX4_init.cls ≠ "java/lang/invoke/VarHandle" ∧ (parseMethodDescriptor yX4_init.desc).map (fun d => d.parameters.length) = some 3 := by decide +kernel
set_option maxHeartbeats 4000000 in
set_option maxRecDepth 100000 in
theorem kX4_init (l : Launch) (D : va_G) (y : Nat → ClassId) (h g1 g2 g3 : Nat) (sz : Nat) : Met l yX4_init zX4_init { frames := 1, cells := 1, slots := 4, locals := 12 } (va_Pc [.ref h, .ref g1, .ref g2, .ref g3] (preI D y [(h, .inr (4, [.null, .null, .null, .null]))] sz)) (va_Qv (fun _ : Unit => True) (fun _ T => ∃ (q1 : Nat), va_P D vwCl [(h, .inr (4, [.ref g1, .ref g2, .ref g3, .ref q1])), (q1, .inl (y 0, 4, .inl (fun _ => 0)))] T.heap ∧ va_D (va_A [(h, .inr (4, [.null, .null, .null, .null]))] sz) [(h, .inr (4, [.ref g1, .ref g2, .ref g3, .ref q1])), (q1, .inl (y 0, 4, .inl (fun _ => 0)))]) (va_A [(h, .inr (4, [.null, .null, .null, .null]))] sz)) 1 4 (va_A [(h, .inr (4, [.null, .null, .null, .null]))] sz) := by
  refine Met.ofW (cc := cX4_init) (maxL := 4) (ret := none) (by decide) rfl ?_
  intro p e s m args below meth c s₁ B hml hv
  obtain ⟨rfl, hsz, hP, hK, hD0, hNX⟩ := hv
  have hx := B.exec
  have hb := B.bytes
  have hr := B.returns
  have hts := atoms_spec (ws := zX4_init) B.pre
  have hown : s.vm.findClass RX4 = some m.cls := findClass_of_methodNamed B.named
  have hlocks := B.notSynchronized
  have hin : meth.name = "<init>" := (name_of_methodNamed B.named B.method).1
  subst hsz
  have l_oM := hts _ (List.mem_cons_of_mem _ aM_X4_3)
  have l_oI := hts _ (List.mem_cons_of_mem _ aI_objectInit)
  have l_oC := hts _ (List.mem_cons_of_mem _ aC_objectInit)
  have l_aint := hts _ (List.mem_cons_of_mem _ aA_int)
  have l_f9 := hts _ (List.mem_cons_of_mem _ aF_X4_9)
  have l_f15 := hts _ (List.mem_cons_of_mem _ aF_X4_15)
  have l_f19 := hts _ (List.mem_cons_of_mem _ aF_X4_19)
  have l_f23 := hts _ (List.mem_cons_of_mem _ aF_X4_23)
  have h_w : ∀ w ∈ wsX40, w.before _ s = true := fun w hw => hts w (List.mem_cons_of_mem _ (hwX4 w hw))
  have hD := hD0.self (sz := s.heap.size)
  generalize hAe : va_A [(h, .inr (4, [.null, .null, .null, .null]))] s.heap.size = A at hD ⊢
  have hA : ∀ q : Nat, s.heap.size ≤ q → A q := fun q h => by rw [← hAe]; exact Or.inr h
  have hS : va_S A s.heap s.heap [] := va_S.rf
  have hl := lv_entry ([.ref h, .ref g1, .ref g2, .ref g3]) (n := 4) (Nat.le_of_ble_eq_true rfl)
  rw [lg_entry_eq]
  generalize (lg_sl ([.ref h, .ref g1, .ref g2, .ref g3]) ++ List.replicate (4 - (lg_sl ([.ref h, .ref g1, .ref g2, .ref g3])).length) Slot.unset).toArray = ls at hl ⊢
  have hl : lv_has ls 4 [(0, .ref h), (1, .ref g1), (2, .ref g2), (3, .ref g3)] := hl
  refine lv_aload_n hx hb dX4_init_0 rfl (lv_at hl 0 rfl) ?_
  refine W.objInit hx hb hown l_oM l_oI l_oC rfl (by rw [hml]; exact hl.1) rfl dX4_init_1 (Nat.le_of_ble_eq_true rfl) (Nat.le_of_ble_eq_true rfl) ?_
  refine W.eq (g2 := F0 m 4 ls []) rfl ?_
  refine lv_aload_n hx hb dX4_init_4 rfl (lv_at hl 0 rfl) ?_
  refine lv_iconst (v := 4) hx hb dX4_init_5 (by decide) ?_
  refine nwG_int (n := 4) hx hb l_aint hK hP hD hS hA (by decide) rfl (Nat.le_of_ble_eq_true rfl) (by show _ ≤ 1; omega) (by show _ ≤ 4; omega) dX4_init_6 (fun q1 H hP hD hS => ?_)
  refine W.widen (k := 1) (n := 4) (by omega) (by omega) ?_
  have hP : va_P D vwCl [(h, .inr (4, [.null, .null, .null, .null])), (q1, .inl (y 0, 4, .inl (fun _ => 0)))] H := hP
  have hD : va_D A [(h, .inr (4, [.null, .null, .null, .null])), (q1, .inl (y 0, 4, .inl (fun _ => 0)))] := hD
  refine va_putF (D := D) (ci := 4) (v := .ref q1) (ty := .array .int) (C := RX4) (T := TX4) (N := 4) hx hb h_w (fun _ h => h) tyX4 tyX4_ok nmX4 hown hK hP hD hS 0 rfl rfl 3 (by decide) l_f9 (fun _ h9 => h9) rfl hin rfl (by decide +kernel) rfl rfl (Nat.le_of_ble_eq_true rfl) dX4_init_8 (fun H locs hP hD hS => ?_)
  have hP : va_P D vwCl [(h, .inr (4, [.null, .null, .null, .ref q1])), (q1, .inl (y 0, 4, .inl (fun _ => 0)))] H := hP
  have hD : va_D A [(h, .inr (4, [.null, .null, .null, .ref q1])), (q1, .inl (y 0, 4, .inl (fun _ => 0)))] := hD
  refine lv_aload_n hx hb dX4_init_11 rfl (lv_at hl 0 rfl) ?_
  refine lv_aload_n hx hb dX4_init_12 rfl (lv_at hl 1 rfl) ?_
  refine va_putF (D := D) (ci := 4) (v := .ref g1) (ty := .object "ProofDesk$Formulas") (C := RX4) (T := TX4) (N := 4) hx hb h_w (fun _ h => h) tyX4 tyX4_ok nmX4 hown hK hP hD hS 0 rfl rfl 0 (by decide) l_f15 (fun _ h9 => h9) rfl hin rfl (by decide +kernel) rfl rfl (Nat.le_of_ble_eq_true rfl) dX4_init_13 (fun H locs hP hD hS => ?_)
  have hP : va_P D vwCl [(h, .inr (4, [.ref g1, .null, .null, .ref q1])), (q1, .inl (y 0, 4, .inl (fun _ => 0)))] H := hP
  have hD : va_D A [(h, .inr (4, [.ref g1, .null, .null, .ref q1])), (q1, .inl (y 0, 4, .inl (fun _ => 0)))] := hD
  refine lv_aload_n hx hb dX4_init_16 rfl (lv_at hl 0 rfl) ?_
  refine lv_aload_n hx hb dX4_init_17 rfl (lv_at hl 2 rfl) ?_
  refine va_putF (D := D) (ci := 4) (v := .ref g2) (ty := .object "ProofDesk$Theorems") (C := RX4) (T := TX4) (N := 4) hx hb h_w (fun _ h => h) tyX4 tyX4_ok nmX4 hown hK hP hD hS 0 rfl rfl 1 (by decide) l_f19 (fun _ h9 => h9) rfl hin rfl (by decide +kernel) rfl rfl (Nat.le_of_ble_eq_true rfl) dX4_init_18 (fun H locs hP hD hS => ?_)
  have hP : va_P D vwCl [(h, .inr (4, [.ref g1, .ref g2, .null, .ref q1])), (q1, .inl (y 0, 4, .inl (fun _ => 0)))] H := hP
  have hD : va_D A [(h, .inr (4, [.ref g1, .ref g2, .null, .ref q1])), (q1, .inl (y 0, 4, .inl (fun _ => 0)))] := hD
  refine lv_aload_n hx hb dX4_init_21 rfl (lv_at hl 0 rfl) ?_
  refine lv_aload_n hx hb dX4_init_22 rfl (lv_at hl 3 rfl) ?_
  refine va_putF (D := D) (ci := 4) (v := .ref g3) (ty := .object "ProofDesk$Proof") (C := RX4) (T := TX4) (N := 4) hx hb h_w (fun _ h => h) tyX4 tyX4_ok nmX4 hown hK hP hD hS 0 rfl rfl 2 (by decide) l_f23 (fun _ h9 => h9) rfl hin rfl (by decide +kernel) rfl rfl (Nat.le_of_ble_eq_true rfl) dX4_init_23 (fun H locs hP hD hS => ?_)
  have hP : va_P D vwCl [(h, .inr (4, [.ref g1, .ref g2, .ref g3, .ref q1])), (q1, .inl (y 0, 4, .inl (fun _ => 0)))] H := hP
  have hD : va_D A [(h, .inr (4, [.ref g1, .ref g2, .ref g3, .ref q1])), (q1, .inl (y 0, 4, .inl (fun _ => 0)))] := hD
  exact W.vret hx hb hr (fun T hT hW => ⟨⟨(), rfl, trivial, q1, by rw [hT]; exact hP, hD⟩, hS.F hT⟩) hS.2.2 dX4_init_26
theorem eX5_init : yX5_init.cls ≠ "java/lang/invoke/MethodHandle" ∧ yX5_init.cls ≠ "java/lang/invoke/VarHandle" ∧ (parseMethodDescriptor yX5_init.desc).map (fun d => d.parameters.length) = some 1 := by decide +kernel
set_option maxHeartbeats 4000000 in
set_option maxRecDepth 100000 in
theorem kX5_init (l : Launch) (D : va_G) (y : Nat → ClassId) (h g1 : Nat) (sz : Nat) : Met l yX5_init zX5_init { frames := 1, cells := 1, slots := 400, locals := 12 } (va_Pc [.ref h, .ref g1] (preI D y [(h, .inr (5, [.null, .null, .int 0, .int 0, .int 0]))] sz)) (va_Qv (fun _ : Unit => True) (fun _ T => ∃ (q1 : Nat), va_P D vwCl [(h, .inr (5, [.ref g1, .ref q1, .int 0, .int 0, .int (-1)])), (q1, .inl (y 1, 400, .inl (fun _ => 0)))] T.heap ∧ va_D (va_A [(h, .inr (5, [.null, .null, .int 0, .int 0, .int 0]))] sz) [(h, .inr (5, [.ref g1, .ref q1, .int 0, .int 0, .int (-1)])), (q1, .inl (y 1, 400, .inl (fun _ => 0)))]) (va_A [(h, .inr (5, [.null, .null, .int 0, .int 0, .int 0]))] sz)) 1 400 (va_A [(h, .inr (5, [.null, .null, .int 0, .int 0, .int 0]))] sz) := by
  refine Met.ofW (cc := cX5_init) (maxL := 2) (ret := none) (by decide) rfl ?_
  intro p e s m args below meth c s₁ B hml hv
  obtain ⟨rfl, hsz, hP, hK, hD0, hNX⟩ := hv
  have hx := B.exec
  have hb := B.bytes
  have hr := B.returns
  have hts := atoms_spec (ws := zX5_init) B.pre
  have hown : s.vm.findClass RX5 = some m.cls := findClass_of_methodNamed B.named
  have hlocks := B.notSynchronized
  have hin : meth.name = "<init>" := (name_of_methodNamed B.named B.method).1
  subst hsz
  have l_oM := hts _ (List.mem_cons_of_mem _ aM_X5_3)
  have l_oI := hts _ (List.mem_cons_of_mem _ aI_objectInit)
  have l_oC := hts _ (List.mem_cons_of_mem _ aC_objectInit)
  have l_abyte := hts _ (List.mem_cons_of_mem _ aA_byte)
  have l_f9 := hts _ (List.mem_cons_of_mem _ aF_X5_9)
  have l_f15 := hts _ (List.mem_cons_of_mem _ aF_X5_15)
  have l_f19 := hts _ (List.mem_cons_of_mem _ aF_X5_19)
  have h_w : ∀ w ∈ wsX50, w.before _ s = true := fun w hw => hts w (List.mem_cons_of_mem _ (hwX5 w hw))
  have hD := hD0.self (sz := s.heap.size)
  generalize hAe : va_A [(h, .inr (5, [.null, .null, .int 0, .int 0, .int 0]))] s.heap.size = A at hD ⊢
  have hA : ∀ q : Nat, s.heap.size ≤ q → A q := fun q h => by rw [← hAe]; exact Or.inr h
  have hS : va_S A s.heap s.heap [] := va_S.rf
  have hl := lv_entry ([.ref h, .ref g1]) (n := 2) (Nat.le_of_ble_eq_true rfl)
  rw [lg_entry_eq]
  generalize (lg_sl ([.ref h, .ref g1]) ++ List.replicate (2 - (lg_sl ([.ref h, .ref g1])).length) Slot.unset).toArray = ls at hl ⊢
  have hl : lv_has ls 2 [(0, .ref h), (1, .ref g1)] := hl
  refine lv_aload_n hx hb dX5_init_0 rfl (lv_at hl 0 rfl) ?_
  refine W.objInit hx hb hown l_oM l_oI l_oC rfl (by rw [hml]; exact hl.1) rfl dX5_init_1 (Nat.le_of_ble_eq_true rfl) (Nat.le_of_ble_eq_true rfl) ?_
  refine W.eq (g2 := F0 m 4 ls []) rfl ?_
  refine lv_aload_n hx hb dX5_init_4 rfl (lv_at hl 0 rfl) ?_
  refine lv_sipush (v := 400) hx hb dX5_init_5 (by decide) ?_
  refine nwG_byte (n := 400) hx hb l_abyte hK hP hD hS hA (by decide) rfl (Nat.le_of_ble_eq_true rfl) (by show _ ≤ 1; omega) (by show _ ≤ 400; omega) dX5_init_8 (fun q1 H hP hD hS => ?_)
  refine W.widen (k := 1) (n := 400) (by omega) (by omega) ?_
  have hP : va_P D vwCl [(h, .inr (5, [.null, .null, .int 0, .int 0, .int 0])), (q1, .inl (y 1, 400, .inl (fun _ => 0)))] H := hP
  have hD : va_D A [(h, .inr (5, [.null, .null, .int 0, .int 0, .int 0])), (q1, .inl (y 1, 400, .inl (fun _ => 0)))] := hD
  refine va_putF (D := D) (ci := 5) (v := .ref q1) (ty := .array .byte) (C := RX5) (T := TX5) (N := 5) hx hb h_w (fun _ h => h) tyX5 tyX5_ok nmX5 hown hK hP hD hS 0 rfl rfl 1 (by decide) l_f9 (fun _ h9 => h9) rfl hin rfl (by decide +kernel) rfl rfl (Nat.le_of_ble_eq_true rfl) dX5_init_10 (fun H locs hP hD hS => ?_)
  have hP : va_P D vwCl [(h, .inr (5, [.null, .ref q1, .int 0, .int 0, .int 0])), (q1, .inl (y 1, 400, .inl (fun _ => 0)))] H := hP
  have hD : va_D A [(h, .inr (5, [.null, .ref q1, .int 0, .int 0, .int 0])), (q1, .inl (y 1, 400, .inl (fun _ => 0)))] := hD
  refine lv_aload_n hx hb dX5_init_13 rfl (lv_at hl 0 rfl) ?_
  refine lv_iconst (v := (-1)) hx hb dX5_init_14 (by decide) ?_
  refine va_put (D := D) (ci := 5) (v := .int (-1)) (ty := .int) (C := RX5) (T := TX5) (N := 5) hx hb h_w (fun _ h => h) tyX5 tyX5_ok nmX5 hown hK hP hD hS 0 rfl rfl 4 (by decide) l_f15 (fun _ h9 => h9) rfl (by decide +kernel) rfl rfl (Nat.le_of_ble_eq_true rfl) dX5_init_15 (fun H locs hP hD hS => ?_)
  have hP : va_P D vwCl [(h, .inr (5, [.null, .ref q1, .int 0, .int 0, .int (-1)])), (q1, .inl (y 1, 400, .inl (fun _ => 0)))] H := hP
  have hD : va_D A [(h, .inr (5, [.null, .ref q1, .int 0, .int 0, .int (-1)])), (q1, .inl (y 1, 400, .inl (fun _ => 0)))] := hD
  refine lv_aload_n hx hb dX5_init_18 rfl (lv_at hl 0 rfl) ?_
  refine lv_aload_n hx hb dX5_init_19 rfl (lv_at hl 1 rfl) ?_
  refine va_putF (D := D) (ci := 5) (v := .ref g1) (ty := .object "ProofDesk$Formulas") (C := RX5) (T := TX5) (N := 5) hx hb h_w (fun _ h => h) tyX5 tyX5_ok nmX5 hown hK hP hD hS 0 rfl rfl 0 (by decide) l_f19 (fun _ h9 => h9) rfl hin rfl (by decide +kernel) rfl rfl (Nat.le_of_ble_eq_true rfl) dX5_init_20 (fun H locs hP hD hS => ?_)
  have hP : va_P D vwCl [(h, .inr (5, [.ref g1, .ref q1, .int 0, .int 0, .int (-1)])), (q1, .inl (y 1, 400, .inl (fun _ => 0)))] H := hP
  have hD : va_D A [(h, .inr (5, [.ref g1, .ref q1, .int 0, .int 0, .int (-1)])), (q1, .inl (y 1, 400, .inl (fun _ => 0)))] := hD
  exact W.vret hx hb hr (fun T hT hW => ⟨⟨(), rfl, trivial, q1, by rw [hT]; exact hP, hD⟩, hS.F hT⟩) hS.2.2 dX5_init_23
theorem eX6_init : yX6_init.cls ≠ "java/lang/invoke/MethodHandle" ∧ yX6_init.cls ≠ "java/lang/invoke/VarHandle" ∧ (parseMethodDescriptor yX6_init.desc).map (fun d => d.parameters.length) = some 1 := by decide +kernel
set_option maxHeartbeats 4000000 in
set_option maxRecDepth 100000 in
theorem kX6_init (l : Launch) (D : va_G) (y : Nat → ClassId) (h g1 : Nat) (sz : Nat) : Met l yX6_init zX6_init { frames := 1, cells := 7, slots := 336, locals := 12 } (va_Pc [.ref h, .ref g1] (preI D y [(h, .inr (6, [.null, .null, .null, .null, .null, .null, .null, .null, .int 0]))] sz)) (va_Qv (fun _ : Unit => True) (fun _ T => ∃ (q1 q2 q3 q4 q5 q6 q7 : Nat), va_P D vwCl [(h, .inr (6, [.ref g1, .ref q1, .ref q2, .ref q3, .ref q4, .ref q5, .ref q6, .ref q7, .int 0])), (q1, .inl (y 0, 16, .inl (fun _ => 0))), (q2, .inl (y 0, 16, .inl (fun _ => 0))), (q3, .inl (y 0, 16, .inl (fun _ => 0))), (q4, .inl (y 0, 16, .inl (fun _ => 0))), (q5, .inl (y 0, 16, .inl (fun _ => 0))), (q6, .inl (y 0, 16, .inl (fun _ => 0))), (q7, .inl (y 0, 240, .inl (fun _ => 0)))] T.heap ∧ va_D (va_A [(h, .inr (6, [.null, .null, .null, .null, .null, .null, .null, .null, .int 0]))] sz) [(h, .inr (6, [.ref g1, .ref q1, .ref q2, .ref q3, .ref q4, .ref q5, .ref q6, .ref q7, .int 0])), (q1, .inl (y 0, 16, .inl (fun _ => 0))), (q2, .inl (y 0, 16, .inl (fun _ => 0))), (q3, .inl (y 0, 16, .inl (fun _ => 0))), (q4, .inl (y 0, 16, .inl (fun _ => 0))), (q5, .inl (y 0, 16, .inl (fun _ => 0))), (q6, .inl (y 0, 16, .inl (fun _ => 0))), (q7, .inl (y 0, 240, .inl (fun _ => 0)))]) (va_A [(h, .inr (6, [.null, .null, .null, .null, .null, .null, .null, .null, .int 0]))] sz)) 7 336 (va_A [(h, .inr (6, [.null, .null, .null, .null, .null, .null, .null, .null, .int 0]))] sz) := by
  refine Met.ofW (cc := cX6_init) (maxL := 2) (ret := none) (by decide) rfl ?_
  intro p e s m args below meth c s₁ B hml hv
  obtain ⟨rfl, hsz, hP, hK, hD0, hNX⟩ := hv
  have hx := B.exec
  have hb := B.bytes
  have hr := B.returns
  have hts := atoms_spec (ws := zX6_init) B.pre
  have hown : s.vm.findClass RX6 = some m.cls := findClass_of_methodNamed B.named
  have hlocks := B.notSynchronized
  have hin : meth.name = "<init>" := (name_of_methodNamed B.named B.method).1
  subst hsz
  have l_oM := hts _ (List.mem_cons_of_mem _ aM_X6_3)
  have l_oI := hts _ (List.mem_cons_of_mem _ aI_objectInit)
  have l_oC := hts _ (List.mem_cons_of_mem _ aC_objectInit)
  have l_aint := hts _ (List.mem_cons_of_mem _ aA_int)
  have l_f9 := hts _ (List.mem_cons_of_mem _ aF_X6_9)
  have l_f15 := hts _ (List.mem_cons_of_mem _ aF_X6_15)
  have l_f18 := hts _ (List.mem_cons_of_mem _ aF_X6_18)
  have l_f21 := hts _ (List.mem_cons_of_mem _ aF_X6_21)
  have l_f24 := hts _ (List.mem_cons_of_mem _ aF_X6_24)
  have l_f27 := hts _ (List.mem_cons_of_mem _ aF_X6_27)
  have l_f30 := hts _ (List.mem_cons_of_mem _ aF_X6_30)
  have l_f33 := hts _ (List.mem_cons_of_mem _ aF_X6_33)
  have h_w : ∀ w ∈ wsX60, w.before _ s = true := fun w hw => hts w (List.mem_cons_of_mem _ (hwX6 w hw))
  have hD := hD0.self (sz := s.heap.size)
  generalize hAe : va_A [(h, .inr (6, [.null, .null, .null, .null, .null, .null, .null, .null, .int 0]))] s.heap.size = A at hD ⊢
  have hA : ∀ q : Nat, s.heap.size ≤ q → A q := fun q h => by rw [← hAe]; exact Or.inr h
  have hS : va_S A s.heap s.heap [] := va_S.rf
  have hl := lv_entry ([.ref h, .ref g1]) (n := 2) (Nat.le_of_ble_eq_true rfl)
  rw [lg_entry_eq]
  generalize (lg_sl ([.ref h, .ref g1]) ++ List.replicate (2 - (lg_sl ([.ref h, .ref g1])).length) Slot.unset).toArray = ls at hl ⊢
  have hl : lv_has ls 2 [(0, .ref h), (1, .ref g1)] := hl
  refine lv_aload_n hx hb dX6_init_0 rfl (lv_at hl 0 rfl) ?_
  refine W.objInit hx hb hown l_oM l_oI l_oC rfl (by rw [hml]; exact hl.1) rfl dX6_init_1 (Nat.le_of_ble_eq_true rfl) (Nat.le_of_ble_eq_true rfl) ?_
  refine W.eq (g2 := F0 m 4 ls []) rfl ?_
  refine lv_aload_n hx hb dX6_init_4 rfl (lv_at hl 0 rfl) ?_
  refine lv_bipush (v := 16) hx hb dX6_init_5 (by decide) ?_
  refine nwG_int (n := 16) hx hb l_aint hK hP hD hS hA (by decide) rfl (Nat.le_of_ble_eq_true rfl) (by show _ ≤ 7; omega) (by show _ ≤ 336; omega) dX6_init_7 (fun q1 H hP hD hS => ?_)
  refine W.widen (k := 1) (n := 16) (by omega) (by omega) ?_
  have hP : va_P D vwCl [(h, .inr (6, [.null, .null, .null, .null, .null, .null, .null, .null, .int 0])), (q1, .inl (y 0, 16, .inl (fun _ => 0)))] H := hP
  have hD : va_D A [(h, .inr (6, [.null, .null, .null, .null, .null, .null, .null, .null, .int 0])), (q1, .inl (y 0, 16, .inl (fun _ => 0)))] := hD
  refine va_putF (D := D) (ci := 6) (v := .ref q1) (ty := .array .int) (C := RX6) (T := TX6) (N := 9) hx hb h_w (fun _ h => h) tyX6 tyX6_ok nmX6 hown hK hP hD hS 0 rfl rfl 1 (by decide) l_f9 (fun _ h9 => h9) rfl hin rfl (by decide +kernel) rfl rfl (Nat.le_of_ble_eq_true rfl) dX6_init_9 (fun H locs hP hD hS => ?_)
  have hP : va_P D vwCl [(h, .inr (6, [.null, .ref q1, .null, .null, .null, .null, .null, .null, .int 0])), (q1, .inl (y 0, 16, .inl (fun _ => 0)))] H := hP
  have hD : va_D A [(h, .inr (6, [.null, .ref q1, .null, .null, .null, .null, .null, .null, .int 0])), (q1, .inl (y 0, 16, .inl (fun _ => 0)))] := hD
  refine lv_aload_n hx hb dX6_init_12 rfl (lv_at hl 0 rfl) ?_
  refine lv_bipush (v := 16) hx hb dX6_init_13 (by decide) ?_
  refine nwG_int (n := 16) hx hb l_aint hK hP hD hS hA (by decide) rfl (Nat.le_of_ble_eq_true rfl) (by show _ ≤ 7; omega) (by show _ ≤ 336; omega) dX6_init_15 (fun q2 H hP hD hS => ?_)
  refine W.widen (k := 2) (n := 32) (by omega) (by omega) ?_
  have hP : va_P D vwCl [(h, .inr (6, [.null, .ref q1, .null, .null, .null, .null, .null, .null, .int 0])), (q1, .inl (y 0, 16, .inl (fun _ => 0))), (q2, .inl (y 0, 16, .inl (fun _ => 0)))] H := hP
  have hD : va_D A [(h, .inr (6, [.null, .ref q1, .null, .null, .null, .null, .null, .null, .int 0])), (q1, .inl (y 0, 16, .inl (fun _ => 0))), (q2, .inl (y 0, 16, .inl (fun _ => 0)))] := hD
  refine va_putF (D := D) (ci := 6) (v := .ref q2) (ty := .array .int) (C := RX6) (T := TX6) (N := 9) hx hb h_w (fun _ h => h) tyX6 tyX6_ok nmX6 hown hK hP hD hS 0 rfl rfl 2 (by decide) l_f15 (fun _ h9 => h9) rfl hin rfl (by decide +kernel) rfl rfl (Nat.le_of_ble_eq_true rfl) dX6_init_17 (fun H locs hP hD hS => ?_)
  have hP : va_P D vwCl [(h, .inr (6, [.null, .ref q1, .ref q2, .null, .null, .null, .null, .null, .int 0])), (q1, .inl (y 0, 16, .inl (fun _ => 0))), (q2, .inl (y 0, 16, .inl (fun _ => 0)))] H := hP
  have hD : va_D A [(h, .inr (6, [.null, .ref q1, .ref q2, .null, .null, .null, .null, .null, .int 0])), (q1, .inl (y 0, 16, .inl (fun _ => 0))), (q2, .inl (y 0, 16, .inl (fun _ => 0)))] := hD
  refine lv_aload_n hx hb dX6_init_20 rfl (lv_at hl 0 rfl) ?_
  refine lv_bipush (v := 16) hx hb dX6_init_21 (by decide) ?_
  refine nwG_int (n := 16) hx hb l_aint hK hP hD hS hA (by decide) rfl (Nat.le_of_ble_eq_true rfl) (by show _ ≤ 7; omega) (by show _ ≤ 336; omega) dX6_init_23 (fun q3 H hP hD hS => ?_)
  refine W.widen (k := 3) (n := 48) (by omega) (by omega) ?_
  have hP : va_P D vwCl [(h, .inr (6, [.null, .ref q1, .ref q2, .null, .null, .null, .null, .null, .int 0])), (q1, .inl (y 0, 16, .inl (fun _ => 0))), (q2, .inl (y 0, 16, .inl (fun _ => 0))), (q3, .inl (y 0, 16, .inl (fun _ => 0)))] H := hP
  have hD : va_D A [(h, .inr (6, [.null, .ref q1, .ref q2, .null, .null, .null, .null, .null, .int 0])), (q1, .inl (y 0, 16, .inl (fun _ => 0))), (q2, .inl (y 0, 16, .inl (fun _ => 0))), (q3, .inl (y 0, 16, .inl (fun _ => 0)))] := hD
  refine va_putF (D := D) (ci := 6) (v := .ref q3) (ty := .array .int) (C := RX6) (T := TX6) (N := 9) hx hb h_w (fun _ h => h) tyX6 tyX6_ok nmX6 hown hK hP hD hS 0 rfl rfl 3 (by decide) l_f18 (fun _ h9 => h9) rfl hin rfl (by decide +kernel) rfl rfl (Nat.le_of_ble_eq_true rfl) dX6_init_25 (fun H locs hP hD hS => ?_)
  have hP : va_P D vwCl [(h, .inr (6, [.null, .ref q1, .ref q2, .ref q3, .null, .null, .null, .null, .int 0])), (q1, .inl (y 0, 16, .inl (fun _ => 0))), (q2, .inl (y 0, 16, .inl (fun _ => 0))), (q3, .inl (y 0, 16, .inl (fun _ => 0)))] H := hP
  have hD : va_D A [(h, .inr (6, [.null, .ref q1, .ref q2, .ref q3, .null, .null, .null, .null, .int 0])), (q1, .inl (y 0, 16, .inl (fun _ => 0))), (q2, .inl (y 0, 16, .inl (fun _ => 0))), (q3, .inl (y 0, 16, .inl (fun _ => 0)))] := hD
  refine lv_aload_n hx hb dX6_init_28 rfl (lv_at hl 0 rfl) ?_
  refine lv_bipush (v := 16) hx hb dX6_init_29 (by decide) ?_
  refine nwG_int (n := 16) hx hb l_aint hK hP hD hS hA (by decide) rfl (Nat.le_of_ble_eq_true rfl) (by show _ ≤ 7; omega) (by show _ ≤ 336; omega) dX6_init_31 (fun q4 H hP hD hS => ?_)
  refine W.widen (k := 4) (n := 64) (by omega) (by omega) ?_
  have hP : va_P D vwCl [(h, .inr (6, [.null, .ref q1, .ref q2, .ref q3, .null, .null, .null, .null, .int 0])), (q1, .inl (y 0, 16, .inl (fun _ => 0))), (q2, .inl (y 0, 16, .inl (fun _ => 0))), (q3, .inl (y 0, 16, .inl (fun _ => 0))), (q4, .inl (y 0, 16, .inl (fun _ => 0)))] H := hP
  have hD : va_D A [(h, .inr (6, [.null, .ref q1, .ref q2, .ref q3, .null, .null, .null, .null, .int 0])), (q1, .inl (y 0, 16, .inl (fun _ => 0))), (q2, .inl (y 0, 16, .inl (fun _ => 0))), (q3, .inl (y 0, 16, .inl (fun _ => 0))), (q4, .inl (y 0, 16, .inl (fun _ => 0)))] := hD
  refine va_putF (D := D) (ci := 6) (v := .ref q4) (ty := .array .int) (C := RX6) (T := TX6) (N := 9) hx hb h_w (fun _ h => h) tyX6 tyX6_ok nmX6 hown hK hP hD hS 0 rfl rfl 4 (by decide) l_f21 (fun _ h9 => h9) rfl hin rfl (by decide +kernel) rfl rfl (Nat.le_of_ble_eq_true rfl) dX6_init_33 (fun H locs hP hD hS => ?_)
  have hP : va_P D vwCl [(h, .inr (6, [.null, .ref q1, .ref q2, .ref q3, .ref q4, .null, .null, .null, .int 0])), (q1, .inl (y 0, 16, .inl (fun _ => 0))), (q2, .inl (y 0, 16, .inl (fun _ => 0))), (q3, .inl (y 0, 16, .inl (fun _ => 0))), (q4, .inl (y 0, 16, .inl (fun _ => 0)))] H := hP
  have hD : va_D A [(h, .inr (6, [.null, .ref q1, .ref q2, .ref q3, .ref q4, .null, .null, .null, .int 0])), (q1, .inl (y 0, 16, .inl (fun _ => 0))), (q2, .inl (y 0, 16, .inl (fun _ => 0))), (q3, .inl (y 0, 16, .inl (fun _ => 0))), (q4, .inl (y 0, 16, .inl (fun _ => 0)))] := hD
  refine lv_aload_n hx hb dX6_init_36 rfl (lv_at hl 0 rfl) ?_
  refine lv_bipush (v := 16) hx hb dX6_init_37 (by decide) ?_
  refine nwG_int (n := 16) hx hb l_aint hK hP hD hS hA (by decide) rfl (Nat.le_of_ble_eq_true rfl) (by show _ ≤ 7; omega) (by show _ ≤ 336; omega) dX6_init_39 (fun q5 H hP hD hS => ?_)
  refine W.widen (k := 5) (n := 80) (by omega) (by omega) ?_
  have hP : va_P D vwCl [(h, .inr (6, [.null, .ref q1, .ref q2, .ref q3, .ref q4, .null, .null, .null, .int 0])), (q1, .inl (y 0, 16, .inl (fun _ => 0))), (q2, .inl (y 0, 16, .inl (fun _ => 0))), (q3, .inl (y 0, 16, .inl (fun _ => 0))), (q4, .inl (y 0, 16, .inl (fun _ => 0))), (q5, .inl (y 0, 16, .inl (fun _ => 0)))] H := hP
  have hD : va_D A [(h, .inr (6, [.null, .ref q1, .ref q2, .ref q3, .ref q4, .null, .null, .null, .int 0])), (q1, .inl (y 0, 16, .inl (fun _ => 0))), (q2, .inl (y 0, 16, .inl (fun _ => 0))), (q3, .inl (y 0, 16, .inl (fun _ => 0))), (q4, .inl (y 0, 16, .inl (fun _ => 0))), (q5, .inl (y 0, 16, .inl (fun _ => 0)))] := hD
  refine va_putF (D := D) (ci := 6) (v := .ref q5) (ty := .array .int) (C := RX6) (T := TX6) (N := 9) hx hb h_w (fun _ h => h) tyX6 tyX6_ok nmX6 hown hK hP hD hS 0 rfl rfl 5 (by decide) l_f24 (fun _ h9 => h9) rfl hin rfl (by decide +kernel) rfl rfl (Nat.le_of_ble_eq_true rfl) dX6_init_41 (fun H locs hP hD hS => ?_)
  have hP : va_P D vwCl [(h, .inr (6, [.null, .ref q1, .ref q2, .ref q3, .ref q4, .ref q5, .null, .null, .int 0])), (q1, .inl (y 0, 16, .inl (fun _ => 0))), (q2, .inl (y 0, 16, .inl (fun _ => 0))), (q3, .inl (y 0, 16, .inl (fun _ => 0))), (q4, .inl (y 0, 16, .inl (fun _ => 0))), (q5, .inl (y 0, 16, .inl (fun _ => 0)))] H := hP
  have hD : va_D A [(h, .inr (6, [.null, .ref q1, .ref q2, .ref q3, .ref q4, .ref q5, .null, .null, .int 0])), (q1, .inl (y 0, 16, .inl (fun _ => 0))), (q2, .inl (y 0, 16, .inl (fun _ => 0))), (q3, .inl (y 0, 16, .inl (fun _ => 0))), (q4, .inl (y 0, 16, .inl (fun _ => 0))), (q5, .inl (y 0, 16, .inl (fun _ => 0)))] := hD
  refine lv_aload_n hx hb dX6_init_44 rfl (lv_at hl 0 rfl) ?_
  refine lv_bipush (v := 16) hx hb dX6_init_45 (by decide) ?_
  refine nwG_int (n := 16) hx hb l_aint hK hP hD hS hA (by decide) rfl (Nat.le_of_ble_eq_true rfl) (by show _ ≤ 7; omega) (by show _ ≤ 336; omega) dX6_init_47 (fun q6 H hP hD hS => ?_)
  refine W.widen (k := 6) (n := 96) (by omega) (by omega) ?_
  have hP : va_P D vwCl [(h, .inr (6, [.null, .ref q1, .ref q2, .ref q3, .ref q4, .ref q5, .null, .null, .int 0])), (q1, .inl (y 0, 16, .inl (fun _ => 0))), (q2, .inl (y 0, 16, .inl (fun _ => 0))), (q3, .inl (y 0, 16, .inl (fun _ => 0))), (q4, .inl (y 0, 16, .inl (fun _ => 0))), (q5, .inl (y 0, 16, .inl (fun _ => 0))), (q6, .inl (y 0, 16, .inl (fun _ => 0)))] H := hP
  have hD : va_D A [(h, .inr (6, [.null, .ref q1, .ref q2, .ref q3, .ref q4, .ref q5, .null, .null, .int 0])), (q1, .inl (y 0, 16, .inl (fun _ => 0))), (q2, .inl (y 0, 16, .inl (fun _ => 0))), (q3, .inl (y 0, 16, .inl (fun _ => 0))), (q4, .inl (y 0, 16, .inl (fun _ => 0))), (q5, .inl (y 0, 16, .inl (fun _ => 0))), (q6, .inl (y 0, 16, .inl (fun _ => 0)))] := hD
  refine va_putF (D := D) (ci := 6) (v := .ref q6) (ty := .array .int) (C := RX6) (T := TX6) (N := 9) hx hb h_w (fun _ h => h) tyX6 tyX6_ok nmX6 hown hK hP hD hS 0 rfl rfl 6 (by decide) l_f27 (fun _ h9 => h9) rfl hin rfl (by decide +kernel) rfl rfl (Nat.le_of_ble_eq_true rfl) dX6_init_49 (fun H locs hP hD hS => ?_)
  have hP : va_P D vwCl [(h, .inr (6, [.null, .ref q1, .ref q2, .ref q3, .ref q4, .ref q5, .ref q6, .null, .int 0])), (q1, .inl (y 0, 16, .inl (fun _ => 0))), (q2, .inl (y 0, 16, .inl (fun _ => 0))), (q3, .inl (y 0, 16, .inl (fun _ => 0))), (q4, .inl (y 0, 16, .inl (fun _ => 0))), (q5, .inl (y 0, 16, .inl (fun _ => 0))), (q6, .inl (y 0, 16, .inl (fun _ => 0)))] H := hP
  have hD : va_D A [(h, .inr (6, [.null, .ref q1, .ref q2, .ref q3, .ref q4, .ref q5, .ref q6, .null, .int 0])), (q1, .inl (y 0, 16, .inl (fun _ => 0))), (q2, .inl (y 0, 16, .inl (fun _ => 0))), (q3, .inl (y 0, 16, .inl (fun _ => 0))), (q4, .inl (y 0, 16, .inl (fun _ => 0))), (q5, .inl (y 0, 16, .inl (fun _ => 0))), (q6, .inl (y 0, 16, .inl (fun _ => 0)))] := hD
  refine lv_aload_n hx hb dX6_init_52 rfl (lv_at hl 0 rfl) ?_
  refine lv_sipush (v := 240) hx hb dX6_init_53 (by decide) ?_
  refine nwG_int (n := 240) hx hb l_aint hK hP hD hS hA (by decide) rfl (Nat.le_of_ble_eq_true rfl) (by show _ ≤ 7; omega) (by show _ ≤ 336; omega) dX6_init_56 (fun q7 H hP hD hS => ?_)
  refine W.widen (k := 7) (n := 336) (by omega) (by omega) ?_
  have hP : va_P D vwCl [(h, .inr (6, [.null, .ref q1, .ref q2, .ref q3, .ref q4, .ref q5, .ref q6, .null, .int 0])), (q1, .inl (y 0, 16, .inl (fun _ => 0))), (q2, .inl (y 0, 16, .inl (fun _ => 0))), (q3, .inl (y 0, 16, .inl (fun _ => 0))), (q4, .inl (y 0, 16, .inl (fun _ => 0))), (q5, .inl (y 0, 16, .inl (fun _ => 0))), (q6, .inl (y 0, 16, .inl (fun _ => 0))), (q7, .inl (y 0, 240, .inl (fun _ => 0)))] H := hP
  have hD : va_D A [(h, .inr (6, [.null, .ref q1, .ref q2, .ref q3, .ref q4, .ref q5, .ref q6, .null, .int 0])), (q1, .inl (y 0, 16, .inl (fun _ => 0))), (q2, .inl (y 0, 16, .inl (fun _ => 0))), (q3, .inl (y 0, 16, .inl (fun _ => 0))), (q4, .inl (y 0, 16, .inl (fun _ => 0))), (q5, .inl (y 0, 16, .inl (fun _ => 0))), (q6, .inl (y 0, 16, .inl (fun _ => 0))), (q7, .inl (y 0, 240, .inl (fun _ => 0)))] := hD
  refine va_putF (D := D) (ci := 6) (v := .ref q7) (ty := .array .int) (C := RX6) (T := TX6) (N := 9) hx hb h_w (fun _ h => h) tyX6 tyX6_ok nmX6 hown hK hP hD hS 0 rfl rfl 7 (by decide) l_f30 (fun _ h9 => h9) rfl hin rfl (by decide +kernel) rfl rfl (Nat.le_of_ble_eq_true rfl) dX6_init_58 (fun H locs hP hD hS => ?_)
  have hP : va_P D vwCl [(h, .inr (6, [.null, .ref q1, .ref q2, .ref q3, .ref q4, .ref q5, .ref q6, .ref q7, .int 0])), (q1, .inl (y 0, 16, .inl (fun _ => 0))), (q2, .inl (y 0, 16, .inl (fun _ => 0))), (q3, .inl (y 0, 16, .inl (fun _ => 0))), (q4, .inl (y 0, 16, .inl (fun _ => 0))), (q5, .inl (y 0, 16, .inl (fun _ => 0))), (q6, .inl (y 0, 16, .inl (fun _ => 0))), (q7, .inl (y 0, 240, .inl (fun _ => 0)))] H := hP
  have hD : va_D A [(h, .inr (6, [.null, .ref q1, .ref q2, .ref q3, .ref q4, .ref q5, .ref q6, .ref q7, .int 0])), (q1, .inl (y 0, 16, .inl (fun _ => 0))), (q2, .inl (y 0, 16, .inl (fun _ => 0))), (q3, .inl (y 0, 16, .inl (fun _ => 0))), (q4, .inl (y 0, 16, .inl (fun _ => 0))), (q5, .inl (y 0, 16, .inl (fun _ => 0))), (q6, .inl (y 0, 16, .inl (fun _ => 0))), (q7, .inl (y 0, 240, .inl (fun _ => 0)))] := hD
  refine lv_aload_n hx hb dX6_init_61 rfl (lv_at hl 0 rfl) ?_
  refine lv_aload_n hx hb dX6_init_62 rfl (lv_at hl 1 rfl) ?_
  refine va_putF (D := D) (ci := 6) (v := .ref g1) (ty := .object "ProofDesk$Formulas") (C := RX6) (T := TX6) (N := 9) hx hb h_w (fun _ h => h) tyX6 tyX6_ok nmX6 hown hK hP hD hS 0 rfl rfl 0 (by decide) l_f33 (fun _ h9 => h9) rfl hin rfl (by decide +kernel) rfl rfl (Nat.le_of_ble_eq_true rfl) dX6_init_63 (fun H locs hP hD hS => ?_)
  have hP : va_P D vwCl [(h, .inr (6, [.ref g1, .ref q1, .ref q2, .ref q3, .ref q4, .ref q5, .ref q6, .ref q7, .int 0])), (q1, .inl (y 0, 16, .inl (fun _ => 0))), (q2, .inl (y 0, 16, .inl (fun _ => 0))), (q3, .inl (y 0, 16, .inl (fun _ => 0))), (q4, .inl (y 0, 16, .inl (fun _ => 0))), (q5, .inl (y 0, 16, .inl (fun _ => 0))), (q6, .inl (y 0, 16, .inl (fun _ => 0))), (q7, .inl (y 0, 240, .inl (fun _ => 0)))] H := hP
  have hD : va_D A [(h, .inr (6, [.ref g1, .ref q1, .ref q2, .ref q3, .ref q4, .ref q5, .ref q6, .ref q7, .int 0])), (q1, .inl (y 0, 16, .inl (fun _ => 0))), (q2, .inl (y 0, 16, .inl (fun _ => 0))), (q3, .inl (y 0, 16, .inl (fun _ => 0))), (q4, .inl (y 0, 16, .inl (fun _ => 0))), (q5, .inl (y 0, 16, .inl (fun _ => 0))), (q6, .inl (y 0, 16, .inl (fun _ => 0))), (q7, .inl (y 0, 240, .inl (fun _ => 0)))] := hD
  exact W.vret hx hb hr (fun T hT hW => ⟨⟨(), rfl, trivial, q1, q2, q3, q4, q5, q6, q7, by rw [hT]; exact hP, hD⟩, hS.F hT⟩) hS.2.2 dX6_init_66
theorem eX3_init : yX3_init.cls ≠ "java/lang/invoke/MethodHandle" ∧ yX3_init.cls ≠ "java/lang/invoke/VarHandle" ∧ (parseMethodDescriptor yX3_init.desc).map (fun d => d.parameters.length) = some 2 := by decide +kernel
set_option maxHeartbeats 4000000 in
set_option maxRecDepth 100000 in
theorem kX3_init (l : Launch) (D : va_G) (y : Nat → ClassId) (h g1 g2 : Nat) (sz : Nat) : Met l yX3_init zX3_init { frames := 2, cells := 11, slots := 906, locals := 32 } (va_Pc [.ref h, .ref g1, .ref g2] (preI D y [(h, .inr (3, [.null, .null, .null, .null, .null, .null, .null, .null, .null, .null, .int 0, .int 0]))] sz)) (va_Qv (fun _ : Unit => True) (fun _ T => ∃ (q1 q2 q3 q4 q5 q6 q7 q8 q9 q10 q11 : Nat), va_P D vwCl [(h, .inr (3, [.ref g1, .ref g2, .ref q1, .ref q5, .ref q6, .ref q7, .ref q8, .ref q9, .ref q10, .ref q11, .int 0, .int 0])), (q1, .inr (0, [.ref q2, .ref q3, .ref q4, .int 0, .int 0, .int (-1)])), (q2, .inl (y 0, 60, .inl (fun _ => 0))), (q3, .inl (y 0, 60, .inl (fun _ => 0))), (q4, .inl (y 0, 60, .inl (fun _ => 0))), (q5, .inl (y 0, 60, .inl (fun _ => 0))), (q6, .inl (y 0, 60, .inl (fun _ => 0))), (q7, .inl (y 0, 180, .inl (fun _ => 0))), (q8, .inl (y 0, 180, .inl (fun _ => 0))), (q9, .inl (y 0, 60, .inl (fun _ => 0))), (q10, .inl (y 3, 60, .inl (fun _ => 0))), (q11, .inl (y 0, 120, .inl (fun _ => 0)))] T.heap ∧ va_D (va_A [(h, .inr (3, [.null, .null, .null, .null, .null, .null, .null, .null, .null, .null, .int 0, .int 0]))] sz) [(h, .inr (3, [.ref g1, .ref g2, .ref q1, .ref q5, .ref q6, .ref q7, .ref q8, .ref q9, .ref q10, .ref q11, .int 0, .int 0])), (q1, .inr (0, [.ref q2, .ref q3, .ref q4, .int 0, .int 0, .int (-1)])), (q2, .inl (y 0, 60, .inl (fun _ => 0))), (q3, .inl (y 0, 60, .inl (fun _ => 0))), (q4, .inl (y 0, 60, .inl (fun _ => 0))), (q5, .inl (y 0, 60, .inl (fun _ => 0))), (q6, .inl (y 0, 60, .inl (fun _ => 0))), (q7, .inl (y 0, 180, .inl (fun _ => 0))), (q8, .inl (y 0, 180, .inl (fun _ => 0))), (q9, .inl (y 0, 60, .inl (fun _ => 0))), (q10, .inl (y 3, 60, .inl (fun _ => 0))), (q11, .inl (y 0, 120, .inl (fun _ => 0)))]) (va_A [(h, .inr (3, [.null, .null, .null, .null, .null, .null, .null, .null, .null, .null, .int 0, .int 0]))] sz)) 11 906 (va_A [(h, .inr (3, [.null, .null, .null, .null, .null, .null, .null, .null, .null, .null, .int 0, .int 0]))] sz) := by
  refine Met.ofW (cc := cX3_init) (maxL := 3) (ret := none) (by decide) rfl ?_
  intro p e s m args below meth c s₁ B hml hv
  obtain ⟨rfl, hsz, hP, hK, hD0, hNX⟩ := hv
  have hx := B.exec
  have hb := B.bytes
  have hr := B.returns
  have hts := atoms_spec (ws := zX3_init) B.pre
  have hown : s.vm.findClass RX3 = some m.cls := findClass_of_methodNamed B.named
  have hlocks := B.notSynchronized
  have hin : meth.name = "<init>" := (name_of_methodNamed B.named B.method).1
  subst hsz
  have l_oM := hts _ (List.mem_cons_of_mem _ aM_X3_3)
  have l_oI := hts _ (List.mem_cons_of_mem _ aI_objectInit)
  have l_oC := hts _ (List.mem_cons_of_mem _ aC_objectInit)
  have l_L9 := hts _ (List.mem_cons_of_mem _ aL_X3_9)
  have l_XX0 := hts _ (List.mem_cons_of_mem _ aX_X0)
  have l_NX0 := hts _ (List.mem_cons_of_mem _ aN_X0)
  have l_IX0_init := hts _ (List.mem_cons_of_mem _ aI_X0_init)
  have l_f12 := hts _ (List.mem_cons_of_mem _ aF_X3_12)
  have l_aint := hts _ (List.mem_cons_of_mem _ aA_int)
  have l_f18 := hts _ (List.mem_cons_of_mem _ aF_X3_18)
  have l_f22 := hts _ (List.mem_cons_of_mem _ aF_X3_22)
  have l_f25 := hts _ (List.mem_cons_of_mem _ aF_X3_25)
  have l_f28 := hts _ (List.mem_cons_of_mem _ aF_X3_28)
  have l_f31 := hts _ (List.mem_cons_of_mem _ aF_X3_31)
  have l_aboolean := hts _ (List.mem_cons_of_mem _ aA_boolean)
  have l_f34 := hts _ (List.mem_cons_of_mem _ aF_X3_34)
  have l_f38 := hts _ (List.mem_cons_of_mem _ aF_X3_38)
  have l_f41 := hts _ (List.mem_cons_of_mem _ aF_X3_41)
  have l_f45 := hts _ (List.mem_cons_of_mem _ aF_X3_45)
  have h_w : ∀ w ∈ wsX30, w.before _ s = true := fun w hw => hts w (List.mem_cons_of_mem _ (hwX3 w hw))
  have h_wX0 : ∀ w ∈ wsX00, w.before _ s = true := fun w hw => hts w (List.mem_cons_of_mem _ (hwX0 w hw))
  have hD := hD0.self (sz := s.heap.size)
  generalize hAe : va_A [(h, .inr (3, [.null, .null, .null, .null, .null, .null, .null, .null, .null, .null, .int 0, .int 0]))] s.heap.size = A at hD ⊢
  have hA : ∀ q : Nat, s.heap.size ≤ q → A q := fun q h => by rw [← hAe]; exact Or.inr h
  have hS : va_S A s.heap s.heap [] := va_S.rf
  have hl := lv_entry ([.ref h, .ref g1, .ref g2]) (n := 3) (Nat.le_of_ble_eq_true rfl)
  rw [lg_entry_eq]
  generalize (lg_sl ([.ref h, .ref g1, .ref g2]) ++ List.replicate (3 - (lg_sl ([.ref h, .ref g1, .ref g2])).length) Slot.unset).toArray = ls at hl ⊢
  have hl : lv_has ls 3 [(0, .ref h), (1, .ref g1), (2, .ref g2)] := hl
  refine lv_aload_n hx hb dX3_init_0 rfl (lv_at hl 0 rfl) ?_
  refine W.objInit hx hb hown l_oM l_oI l_oC rfl (by rw [hml]; exact hl.1) rfl dX3_init_1 (Nat.le_of_ble_eq_true rfl) (Nat.le_of_ble_eq_true rfl) ?_
  refine W.eq (g2 := F0 m 4 ls []) rfl ?_
  refine lv_aload_n hx hb dX3_init_4 rfl (lv_at hl 0 rfl) ?_
  refine va_new (ci := 0) (fs := [.null, .null, .null, .int 0, .int 0, .int 0]) (C := RX0) (T := TX0) (N := 6) hx hb h_wX0 (fun _ h => h) tyX0 tyX0_ok hown l_L9 l_XX0 l_NX0 hK hP hD hS hA rfl (fun j hj => by rcases (show j = 0 ∨ j = 1 ∨ j = 2 ∨ j = 3 ∨ j = 4 ∨ j = 5 by omega) with rfl | rfl | rfl | rfl | rfl | rfl <;> rfl) (by show _ ≤ 11; omega) (by show _ ≤ 906; omega) dX3_init_5 (fun q1 H hP hD hS => ?_)
  refine W.widen (k := 1) (n := 6) (by omega) (by omega) ?_
  have hP : va_P D vwCl [(h, .inr (3, [.null, .null, .null, .null, .null, .null, .null, .null, .null, .null, .int 0, .int 0])), (q1, .inr (0, [.null, .null, .null, .int 0, .int 0, .int 0]))] H := hP
  have hD : va_D A [(h, .inr (3, [.null, .null, .null, .null, .null, .null, .null, .null, .null, .null, .int 0, .int 0])), (q1, .inr (0, [.null, .null, .null, .int 0, .int 0, .int 0]))] := hD
  refine lv_dup hx hb dX3_init_8 rfl ?_
  have hPc := hP.sub (ws' := [(q1, .inr (0, [.null, .null, .null, .int 0, .int 0, .int 0]))]) [1] rfl
  have hFc := va_free (wc := [(q1, .inr (0, [.null, .null, .null, .int 0, .int 0, .int 0]))]) hD hS hA [1] rfl
  have hDc := hD.sub (ws' := [(q1, .inr (0, [.null, .null, .null, .int 0, .int 0, .int 0]))]) [1] (by decide) rfl
  refine va_callv (va_runIN (As := []) (rest := [.ref q1, .ref h]) ⟨hx, hb, hml, hown, hts⟩ (kX0_init l D y q1 _) (⟨va_cnB (host := "ProofDesk") 0 hts (gAI aC_X0_init) rfl rfl rfl hNX.2 l_NX0 eX0_init ⟨Nat.le_of_ble_eq_true rfl, Nat.le_of_ble_eq_true rfl⟩, rfl, l_IX0_init⟩) ⟨preI_blind, fun U hU hW => ⟨rfl, by rw [hU], by rw [hU]; exact hPc, va_K.moved hW.alike hK, hDc.weaken (fun _ _ _ _ => trivial), hNX.warm hW⟩⟩ rfl rfl hl.1 rfl (lv_room (Nat.le_of_ble_eq_true rfl)) dX3_init_9 ⟨by show _ ≤ 11; omega, by show _ ≤ 906; omega⟩) hS (fun q _ h => hFc q h) hFc (fun u T H1 locs ht hvm hw hB hz1 hk1 hS => ?_)
  obtain ⟨q2, q3, q4, hP1, hD1⟩ := hB
  rw [ht] at hP1
  obtain ⟨hP, hD⟩ := va_join (wr := [(h, .inr (3, [.null, .null, .null, .null, .null, .null, .null, .null, .null, .null, .int 0, .int 0]))]) (w1 := [(q1, .inr (0, [.ref q2, .ref q3, .ref q4, .int 0, .int 0, .int (-1)])), (q2, .inl (y 0, 60, .inl (fun _ => 0))), (q3, .inl (y 0, 60, .inl (fun _ => 0))), (q4, .inl (y 0, 60, .inl (fun _ => 0)))]) hP hD [1] [0] rfl rfl (by decide) (by decide) hk1 hFc hP1 hD1
  generalize H1 = H at hP hS ⊢
  refine W.widen (k := 4) (n := 186) (by omega) (by omega) ?_
  have hP : va_P D vwCl [(h, .inr (3, [.null, .null, .null, .null, .null, .null, .null, .null, .null, .null, .int 0, .int 0])), (q1, .inr (0, [.ref q2, .ref q3, .ref q4, .int 0, .int 0, .int (-1)])), (q2, .inl (y 0, 60, .inl (fun _ => 0))), (q3, .inl (y 0, 60, .inl (fun _ => 0))), (q4, .inl (y 0, 60, .inl (fun _ => 0)))] H := hP
  have hD : va_D A [(h, .inr (3, [.null, .null, .null, .null, .null, .null, .null, .null, .null, .null, .int 0, .int 0])), (q1, .inr (0, [.ref q2, .ref q3, .ref q4, .int 0, .int 0, .int (-1)])), (q2, .inl (y 0, 60, .inl (fun _ => 0))), (q3, .inl (y 0, 60, .inl (fun _ => 0))), (q4, .inl (y 0, 60, .inl (fun _ => 0)))] := hD
  refine va_putF (D := D) (ci := 3) (v := .ref q1) (ty := .object "ProofDesk$Boxes") (C := RX3) (T := TX3) (N := 12) hx hb h_w (fun _ h => h) tyX3 tyX3_ok nmX3 hown hK hP hD hS 0 rfl rfl 2 (by decide) l_f12 (fun _ h9 => h9) rfl hin rfl (by decide +kernel) rfl rfl (Nat.le_of_ble_eq_true rfl) dX3_init_12 (fun H locs hP hD hS => ?_)
  have hP : va_P D vwCl [(h, .inr (3, [.null, .null, .ref q1, .null, .null, .null, .null, .null, .null, .null, .int 0, .int 0])), (q1, .inr (0, [.ref q2, .ref q3, .ref q4, .int 0, .int 0, .int (-1)])), (q2, .inl (y 0, 60, .inl (fun _ => 0))), (q3, .inl (y 0, 60, .inl (fun _ => 0))), (q4, .inl (y 0, 60, .inl (fun _ => 0)))] H := hP
  have hD : va_D A [(h, .inr (3, [.null, .null, .ref q1, .null, .null, .null, .null, .null, .null, .null, .int 0, .int 0])), (q1, .inr (0, [.ref q2, .ref q3, .ref q4, .int 0, .int 0, .int (-1)])), (q2, .inl (y 0, 60, .inl (fun _ => 0))), (q3, .inl (y 0, 60, .inl (fun _ => 0))), (q4, .inl (y 0, 60, .inl (fun _ => 0)))] := hD
  refine lv_aload_n hx hb dX3_init_15 rfl (lv_at hl 0 rfl) ?_
  refine lv_bipush (v := 60) hx hb dX3_init_16 (by decide) ?_
  refine nwG_int (n := 60) hx hb l_aint hK hP hD hS hA (by decide) rfl (Nat.le_of_ble_eq_true rfl) (by show _ ≤ 11; omega) (by show _ ≤ 906; omega) dX3_init_18 (fun q5 H hP hD hS => ?_)
  refine W.widen (k := 5) (n := 246) (by omega) (by omega) ?_
  have hP : va_P D vwCl [(h, .inr (3, [.null, .null, .ref q1, .null, .null, .null, .null, .null, .null, .null, .int 0, .int 0])), (q1, .inr (0, [.ref q2, .ref q3, .ref q4, .int 0, .int 0, .int (-1)])), (q2, .inl (y 0, 60, .inl (fun _ => 0))), (q3, .inl (y 0, 60, .inl (fun _ => 0))), (q4, .inl (y 0, 60, .inl (fun _ => 0))), (q5, .inl (y 0, 60, .inl (fun _ => 0)))] H := hP
  have hD : va_D A [(h, .inr (3, [.null, .null, .ref q1, .null, .null, .null, .null, .null, .null, .null, .int 0, .int 0])), (q1, .inr (0, [.ref q2, .ref q3, .ref q4, .int 0, .int 0, .int (-1)])), (q2, .inl (y 0, 60, .inl (fun _ => 0))), (q3, .inl (y 0, 60, .inl (fun _ => 0))), (q4, .inl (y 0, 60, .inl (fun _ => 0))), (q5, .inl (y 0, 60, .inl (fun _ => 0)))] := hD
  refine va_putF (D := D) (ci := 3) (v := .ref q5) (ty := .array .int) (C := RX3) (T := TX3) (N := 12) hx hb h_w (fun _ h => h) tyX3 tyX3_ok nmX3 hown hK hP hD hS 0 rfl rfl 3 (by decide) l_f18 (fun _ h9 => h9) rfl hin rfl (by decide +kernel) rfl rfl (Nat.le_of_ble_eq_true rfl) dX3_init_20 (fun H locs hP hD hS => ?_)
  have hP : va_P D vwCl [(h, .inr (3, [.null, .null, .ref q1, .ref q5, .null, .null, .null, .null, .null, .null, .int 0, .int 0])), (q1, .inr (0, [.ref q2, .ref q3, .ref q4, .int 0, .int 0, .int (-1)])), (q2, .inl (y 0, 60, .inl (fun _ => 0))), (q3, .inl (y 0, 60, .inl (fun _ => 0))), (q4, .inl (y 0, 60, .inl (fun _ => 0))), (q5, .inl (y 0, 60, .inl (fun _ => 0)))] H := hP
  have hD : va_D A [(h, .inr (3, [.null, .null, .ref q1, .ref q5, .null, .null, .null, .null, .null, .null, .int 0, .int 0])), (q1, .inr (0, [.ref q2, .ref q3, .ref q4, .int 0, .int 0, .int (-1)])), (q2, .inl (y 0, 60, .inl (fun _ => 0))), (q3, .inl (y 0, 60, .inl (fun _ => 0))), (q4, .inl (y 0, 60, .inl (fun _ => 0))), (q5, .inl (y 0, 60, .inl (fun _ => 0)))] := hD
  refine lv_aload_n hx hb dX3_init_23 rfl (lv_at hl 0 rfl) ?_
  refine lv_bipush (v := 60) hx hb dX3_init_24 (by decide) ?_
  refine nwG_int (n := 60) hx hb l_aint hK hP hD hS hA (by decide) rfl (Nat.le_of_ble_eq_true rfl) (by show _ ≤ 11; omega) (by show _ ≤ 906; omega) dX3_init_26 (fun q6 H hP hD hS => ?_)
  refine W.widen (k := 6) (n := 306) (by omega) (by omega) ?_
  have hP : va_P D vwCl [(h, .inr (3, [.null, .null, .ref q1, .ref q5, .null, .null, .null, .null, .null, .null, .int 0, .int 0])), (q1, .inr (0, [.ref q2, .ref q3, .ref q4, .int 0, .int 0, .int (-1)])), (q2, .inl (y 0, 60, .inl (fun _ => 0))), (q3, .inl (y 0, 60, .inl (fun _ => 0))), (q4, .inl (y 0, 60, .inl (fun _ => 0))), (q5, .inl (y 0, 60, .inl (fun _ => 0))), (q6, .inl (y 0, 60, .inl (fun _ => 0)))] H := hP
  have hD : va_D A [(h, .inr (3, [.null, .null, .ref q1, .ref q5, .null, .null, .null, .null, .null, .null, .int 0, .int 0])), (q1, .inr (0, [.ref q2, .ref q3, .ref q4, .int 0, .int 0, .int (-1)])), (q2, .inl (y 0, 60, .inl (fun _ => 0))), (q3, .inl (y 0, 60, .inl (fun _ => 0))), (q4, .inl (y 0, 60, .inl (fun _ => 0))), (q5, .inl (y 0, 60, .inl (fun _ => 0))), (q6, .inl (y 0, 60, .inl (fun _ => 0)))] := hD
  refine va_putF (D := D) (ci := 3) (v := .ref q6) (ty := .array .int) (C := RX3) (T := TX3) (N := 12) hx hb h_w (fun _ h => h) tyX3 tyX3_ok nmX3 hown hK hP hD hS 0 rfl rfl 4 (by decide) l_f22 (fun _ h9 => h9) rfl hin rfl (by decide +kernel) rfl rfl (Nat.le_of_ble_eq_true rfl) dX3_init_28 (fun H locs hP hD hS => ?_)
  have hP : va_P D vwCl [(h, .inr (3, [.null, .null, .ref q1, .ref q5, .ref q6, .null, .null, .null, .null, .null, .int 0, .int 0])), (q1, .inr (0, [.ref q2, .ref q3, .ref q4, .int 0, .int 0, .int (-1)])), (q2, .inl (y 0, 60, .inl (fun _ => 0))), (q3, .inl (y 0, 60, .inl (fun _ => 0))), (q4, .inl (y 0, 60, .inl (fun _ => 0))), (q5, .inl (y 0, 60, .inl (fun _ => 0))), (q6, .inl (y 0, 60, .inl (fun _ => 0)))] H := hP
  have hD : va_D A [(h, .inr (3, [.null, .null, .ref q1, .ref q5, .ref q6, .null, .null, .null, .null, .null, .int 0, .int 0])), (q1, .inr (0, [.ref q2, .ref q3, .ref q4, .int 0, .int 0, .int (-1)])), (q2, .inl (y 0, 60, .inl (fun _ => 0))), (q3, .inl (y 0, 60, .inl (fun _ => 0))), (q4, .inl (y 0, 60, .inl (fun _ => 0))), (q5, .inl (y 0, 60, .inl (fun _ => 0))), (q6, .inl (y 0, 60, .inl (fun _ => 0)))] := hD
  refine lv_aload_n hx hb dX3_init_31 rfl (lv_at hl 0 rfl) ?_
  refine lv_sipush (v := 180) hx hb dX3_init_32 (by decide) ?_
  refine nwG_int (n := 180) hx hb l_aint hK hP hD hS hA (by decide) rfl (Nat.le_of_ble_eq_true rfl) (by show _ ≤ 11; omega) (by show _ ≤ 906; omega) dX3_init_35 (fun q7 H hP hD hS => ?_)
  refine W.widen (k := 7) (n := 486) (by omega) (by omega) ?_
  have hP : va_P D vwCl [(h, .inr (3, [.null, .null, .ref q1, .ref q5, .ref q6, .null, .null, .null, .null, .null, .int 0, .int 0])), (q1, .inr (0, [.ref q2, .ref q3, .ref q4, .int 0, .int 0, .int (-1)])), (q2, .inl (y 0, 60, .inl (fun _ => 0))), (q3, .inl (y 0, 60, .inl (fun _ => 0))), (q4, .inl (y 0, 60, .inl (fun _ => 0))), (q5, .inl (y 0, 60, .inl (fun _ => 0))), (q6, .inl (y 0, 60, .inl (fun _ => 0))), (q7, .inl (y 0, 180, .inl (fun _ => 0)))] H := hP
  have hD : va_D A [(h, .inr (3, [.null, .null, .ref q1, .ref q5, .ref q6, .null, .null, .null, .null, .null, .int 0, .int 0])), (q1, .inr (0, [.ref q2, .ref q3, .ref q4, .int 0, .int 0, .int (-1)])), (q2, .inl (y 0, 60, .inl (fun _ => 0))), (q3, .inl (y 0, 60, .inl (fun _ => 0))), (q4, .inl (y 0, 60, .inl (fun _ => 0))), (q5, .inl (y 0, 60, .inl (fun _ => 0))), (q6, .inl (y 0, 60, .inl (fun _ => 0))), (q7, .inl (y 0, 180, .inl (fun _ => 0)))] := hD
  refine va_putF (D := D) (ci := 3) (v := .ref q7) (ty := .array .int) (C := RX3) (T := TX3) (N := 12) hx hb h_w (fun _ h => h) tyX3 tyX3_ok nmX3 hown hK hP hD hS 0 rfl rfl 5 (by decide) l_f25 (fun _ h9 => h9) rfl hin rfl (by decide +kernel) rfl rfl (Nat.le_of_ble_eq_true rfl) dX3_init_37 (fun H locs hP hD hS => ?_)
  have hP : va_P D vwCl [(h, .inr (3, [.null, .null, .ref q1, .ref q5, .ref q6, .ref q7, .null, .null, .null, .null, .int 0, .int 0])), (q1, .inr (0, [.ref q2, .ref q3, .ref q4, .int 0, .int 0, .int (-1)])), (q2, .inl (y 0, 60, .inl (fun _ => 0))), (q3, .inl (y 0, 60, .inl (fun _ => 0))), (q4, .inl (y 0, 60, .inl (fun _ => 0))), (q5, .inl (y 0, 60, .inl (fun _ => 0))), (q6, .inl (y 0, 60, .inl (fun _ => 0))), (q7, .inl (y 0, 180, .inl (fun _ => 0)))] H := hP
  have hD : va_D A [(h, .inr (3, [.null, .null, .ref q1, .ref q5, .ref q6, .ref q7, .null, .null, .null, .null, .int 0, .int 0])), (q1, .inr (0, [.ref q2, .ref q3, .ref q4, .int 0, .int 0, .int (-1)])), (q2, .inl (y 0, 60, .inl (fun _ => 0))), (q3, .inl (y 0, 60, .inl (fun _ => 0))), (q4, .inl (y 0, 60, .inl (fun _ => 0))), (q5, .inl (y 0, 60, .inl (fun _ => 0))), (q6, .inl (y 0, 60, .inl (fun _ => 0))), (q7, .inl (y 0, 180, .inl (fun _ => 0)))] := hD
  refine lv_aload_n hx hb dX3_init_40 rfl (lv_at hl 0 rfl) ?_
  refine lv_sipush (v := 180) hx hb dX3_init_41 (by decide) ?_
  refine nwG_int (n := 180) hx hb l_aint hK hP hD hS hA (by decide) rfl (Nat.le_of_ble_eq_true rfl) (by show _ ≤ 11; omega) (by show _ ≤ 906; omega) dX3_init_44 (fun q8 H hP hD hS => ?_)
  refine W.widen (k := 8) (n := 666) (by omega) (by omega) ?_
  have hP : va_P D vwCl [(h, .inr (3, [.null, .null, .ref q1, .ref q5, .ref q6, .ref q7, .null, .null, .null, .null, .int 0, .int 0])), (q1, .inr (0, [.ref q2, .ref q3, .ref q4, .int 0, .int 0, .int (-1)])), (q2, .inl (y 0, 60, .inl (fun _ => 0))), (q3, .inl (y 0, 60, .inl (fun _ => 0))), (q4, .inl (y 0, 60, .inl (fun _ => 0))), (q5, .inl (y 0, 60, .inl (fun _ => 0))), (q6, .inl (y 0, 60, .inl (fun _ => 0))), (q7, .inl (y 0, 180, .inl (fun _ => 0))), (q8, .inl (y 0, 180, .inl (fun _ => 0)))] H := hP
  have hD : va_D A [(h, .inr (3, [.null, .null, .ref q1, .ref q5, .ref q6, .ref q7, .null, .null, .null, .null, .int 0, .int 0])), (q1, .inr (0, [.ref q2, .ref q3, .ref q4, .int 0, .int 0, .int (-1)])), (q2, .inl (y 0, 60, .inl (fun _ => 0))), (q3, .inl (y 0, 60, .inl (fun _ => 0))), (q4, .inl (y 0, 60, .inl (fun _ => 0))), (q5, .inl (y 0, 60, .inl (fun _ => 0))), (q6, .inl (y 0, 60, .inl (fun _ => 0))), (q7, .inl (y 0, 180, .inl (fun _ => 0))), (q8, .inl (y 0, 180, .inl (fun _ => 0)))] := hD
  refine va_putF (D := D) (ci := 3) (v := .ref q8) (ty := .array .int) (C := RX3) (T := TX3) (N := 12) hx hb h_w (fun _ h => h) tyX3 tyX3_ok nmX3 hown hK hP hD hS 0 rfl rfl 6 (by decide) l_f28 (fun _ h9 => h9) rfl hin rfl (by decide +kernel) rfl rfl (Nat.le_of_ble_eq_true rfl) dX3_init_46 (fun H locs hP hD hS => ?_)
  have hP : va_P D vwCl [(h, .inr (3, [.null, .null, .ref q1, .ref q5, .ref q6, .ref q7, .ref q8, .null, .null, .null, .int 0, .int 0])), (q1, .inr (0, [.ref q2, .ref q3, .ref q4, .int 0, .int 0, .int (-1)])), (q2, .inl (y 0, 60, .inl (fun _ => 0))), (q3, .inl (y 0, 60, .inl (fun _ => 0))), (q4, .inl (y 0, 60, .inl (fun _ => 0))), (q5, .inl (y 0, 60, .inl (fun _ => 0))), (q6, .inl (y 0, 60, .inl (fun _ => 0))), (q7, .inl (y 0, 180, .inl (fun _ => 0))), (q8, .inl (y 0, 180, .inl (fun _ => 0)))] H := hP
  have hD : va_D A [(h, .inr (3, [.null, .null, .ref q1, .ref q5, .ref q6, .ref q7, .ref q8, .null, .null, .null, .int 0, .int 0])), (q1, .inr (0, [.ref q2, .ref q3, .ref q4, .int 0, .int 0, .int (-1)])), (q2, .inl (y 0, 60, .inl (fun _ => 0))), (q3, .inl (y 0, 60, .inl (fun _ => 0))), (q4, .inl (y 0, 60, .inl (fun _ => 0))), (q5, .inl (y 0, 60, .inl (fun _ => 0))), (q6, .inl (y 0, 60, .inl (fun _ => 0))), (q7, .inl (y 0, 180, .inl (fun _ => 0))), (q8, .inl (y 0, 180, .inl (fun _ => 0)))] := hD
  refine lv_aload_n hx hb dX3_init_49 rfl (lv_at hl 0 rfl) ?_
  refine lv_bipush (v := 60) hx hb dX3_init_50 (by decide) ?_
  refine nwG_int (n := 60) hx hb l_aint hK hP hD hS hA (by decide) rfl (Nat.le_of_ble_eq_true rfl) (by show _ ≤ 11; omega) (by show _ ≤ 906; omega) dX3_init_52 (fun q9 H hP hD hS => ?_)
  refine W.widen (k := 9) (n := 726) (by omega) (by omega) ?_
  have hP : va_P D vwCl [(h, .inr (3, [.null, .null, .ref q1, .ref q5, .ref q6, .ref q7, .ref q8, .null, .null, .null, .int 0, .int 0])), (q1, .inr (0, [.ref q2, .ref q3, .ref q4, .int 0, .int 0, .int (-1)])), (q2, .inl (y 0, 60, .inl (fun _ => 0))), (q3, .inl (y 0, 60, .inl (fun _ => 0))), (q4, .inl (y 0, 60, .inl (fun _ => 0))), (q5, .inl (y 0, 60, .inl (fun _ => 0))), (q6, .inl (y 0, 60, .inl (fun _ => 0))), (q7, .inl (y 0, 180, .inl (fun _ => 0))), (q8, .inl (y 0, 180, .inl (fun _ => 0))), (q9, .inl (y 0, 60, .inl (fun _ => 0)))] H := hP
  have hD : va_D A [(h, .inr (3, [.null, .null, .ref q1, .ref q5, .ref q6, .ref q7, .ref q8, .null, .null, .null, .int 0, .int 0])), (q1, .inr (0, [.ref q2, .ref q3, .ref q4, .int 0, .int 0, .int (-1)])), (q2, .inl (y 0, 60, .inl (fun _ => 0))), (q3, .inl (y 0, 60, .inl (fun _ => 0))), (q4, .inl (y 0, 60, .inl (fun _ => 0))), (q5, .inl (y 0, 60, .inl (fun _ => 0))), (q6, .inl (y 0, 60, .inl (fun _ => 0))), (q7, .inl (y 0, 180, .inl (fun _ => 0))), (q8, .inl (y 0, 180, .inl (fun _ => 0))), (q9, .inl (y 0, 60, .inl (fun _ => 0)))] := hD
  refine va_putF (D := D) (ci := 3) (v := .ref q9) (ty := .array .int) (C := RX3) (T := TX3) (N := 12) hx hb h_w (fun _ h => h) tyX3 tyX3_ok nmX3 hown hK hP hD hS 0 rfl rfl 7 (by decide) l_f31 (fun _ h9 => h9) rfl hin rfl (by decide +kernel) rfl rfl (Nat.le_of_ble_eq_true rfl) dX3_init_54 (fun H locs hP hD hS => ?_)
  have hP : va_P D vwCl [(h, .inr (3, [.null, .null, .ref q1, .ref q5, .ref q6, .ref q7, .ref q8, .ref q9, .null, .null, .int 0, .int 0])), (q1, .inr (0, [.ref q2, .ref q3, .ref q4, .int 0, .int 0, .int (-1)])), (q2, .inl (y 0, 60, .inl (fun _ => 0))), (q3, .inl (y 0, 60, .inl (fun _ => 0))), (q4, .inl (y 0, 60, .inl (fun _ => 0))), (q5, .inl (y 0, 60, .inl (fun _ => 0))), (q6, .inl (y 0, 60, .inl (fun _ => 0))), (q7, .inl (y 0, 180, .inl (fun _ => 0))), (q8, .inl (y 0, 180, .inl (fun _ => 0))), (q9, .inl (y 0, 60, .inl (fun _ => 0)))] H := hP
  have hD : va_D A [(h, .inr (3, [.null, .null, .ref q1, .ref q5, .ref q6, .ref q7, .ref q8, .ref q9, .null, .null, .int 0, .int 0])), (q1, .inr (0, [.ref q2, .ref q3, .ref q4, .int 0, .int 0, .int (-1)])), (q2, .inl (y 0, 60, .inl (fun _ => 0))), (q3, .inl (y 0, 60, .inl (fun _ => 0))), (q4, .inl (y 0, 60, .inl (fun _ => 0))), (q5, .inl (y 0, 60, .inl (fun _ => 0))), (q6, .inl (y 0, 60, .inl (fun _ => 0))), (q7, .inl (y 0, 180, .inl (fun _ => 0))), (q8, .inl (y 0, 180, .inl (fun _ => 0))), (q9, .inl (y 0, 60, .inl (fun _ => 0)))] := hD
  refine lv_aload_n hx hb dX3_init_57 rfl (lv_at hl 0 rfl) ?_
  refine lv_bipush (v := 60) hx hb dX3_init_58 (by decide) ?_
  refine nwG_boolean (n := 60) hx hb l_aboolean hK hP hD hS hA (by decide) rfl (Nat.le_of_ble_eq_true rfl) (by show _ ≤ 11; omega) (by show _ ≤ 906; omega) dX3_init_60 (fun q10 H hP hD hS => ?_)
  refine W.widen (k := 10) (n := 786) (by omega) (by omega) ?_
  have hP : va_P D vwCl [(h, .inr (3, [.null, .null, .ref q1, .ref q5, .ref q6, .ref q7, .ref q8, .ref q9, .null, .null, .int 0, .int 0])), (q1, .inr (0, [.ref q2, .ref q3, .ref q4, .int 0, .int 0, .int (-1)])), (q2, .inl (y 0, 60, .inl (fun _ => 0))), (q3, .inl (y 0, 60, .inl (fun _ => 0))), (q4, .inl (y 0, 60, .inl (fun _ => 0))), (q5, .inl (y 0, 60, .inl (fun _ => 0))), (q6, .inl (y 0, 60, .inl (fun _ => 0))), (q7, .inl (y 0, 180, .inl (fun _ => 0))), (q8, .inl (y 0, 180, .inl (fun _ => 0))), (q9, .inl (y 0, 60, .inl (fun _ => 0))), (q10, .inl (y 3, 60, .inl (fun _ => 0)))] H := hP
  have hD : va_D A [(h, .inr (3, [.null, .null, .ref q1, .ref q5, .ref q6, .ref q7, .ref q8, .ref q9, .null, .null, .int 0, .int 0])), (q1, .inr (0, [.ref q2, .ref q3, .ref q4, .int 0, .int 0, .int (-1)])), (q2, .inl (y 0, 60, .inl (fun _ => 0))), (q3, .inl (y 0, 60, .inl (fun _ => 0))), (q4, .inl (y 0, 60, .inl (fun _ => 0))), (q5, .inl (y 0, 60, .inl (fun _ => 0))), (q6, .inl (y 0, 60, .inl (fun _ => 0))), (q7, .inl (y 0, 180, .inl (fun _ => 0))), (q8, .inl (y 0, 180, .inl (fun _ => 0))), (q9, .inl (y 0, 60, .inl (fun _ => 0))), (q10, .inl (y 3, 60, .inl (fun _ => 0)))] := hD
  refine va_putF (D := D) (ci := 3) (v := .ref q10) (ty := .array .boolean) (C := RX3) (T := TX3) (N := 12) hx hb h_w (fun _ h => h) tyX3 tyX3_ok nmX3 hown hK hP hD hS 0 rfl rfl 8 (by decide) l_f34 (fun _ h9 => h9) rfl hin rfl (by decide +kernel) rfl rfl (Nat.le_of_ble_eq_true rfl) dX3_init_62 (fun H locs hP hD hS => ?_)
  have hP : va_P D vwCl [(h, .inr (3, [.null, .null, .ref q1, .ref q5, .ref q6, .ref q7, .ref q8, .ref q9, .ref q10, .null, .int 0, .int 0])), (q1, .inr (0, [.ref q2, .ref q3, .ref q4, .int 0, .int 0, .int (-1)])), (q2, .inl (y 0, 60, .inl (fun _ => 0))), (q3, .inl (y 0, 60, .inl (fun _ => 0))), (q4, .inl (y 0, 60, .inl (fun _ => 0))), (q5, .inl (y 0, 60, .inl (fun _ => 0))), (q6, .inl (y 0, 60, .inl (fun _ => 0))), (q7, .inl (y 0, 180, .inl (fun _ => 0))), (q8, .inl (y 0, 180, .inl (fun _ => 0))), (q9, .inl (y 0, 60, .inl (fun _ => 0))), (q10, .inl (y 3, 60, .inl (fun _ => 0)))] H := hP
  have hD : va_D A [(h, .inr (3, [.null, .null, .ref q1, .ref q5, .ref q6, .ref q7, .ref q8, .ref q9, .ref q10, .null, .int 0, .int 0])), (q1, .inr (0, [.ref q2, .ref q3, .ref q4, .int 0, .int 0, .int (-1)])), (q2, .inl (y 0, 60, .inl (fun _ => 0))), (q3, .inl (y 0, 60, .inl (fun _ => 0))), (q4, .inl (y 0, 60, .inl (fun _ => 0))), (q5, .inl (y 0, 60, .inl (fun _ => 0))), (q6, .inl (y 0, 60, .inl (fun _ => 0))), (q7, .inl (y 0, 180, .inl (fun _ => 0))), (q8, .inl (y 0, 180, .inl (fun _ => 0))), (q9, .inl (y 0, 60, .inl (fun _ => 0))), (q10, .inl (y 3, 60, .inl (fun _ => 0)))] := hD
  refine lv_aload_n hx hb dX3_init_65 rfl (lv_at hl 0 rfl) ?_
  refine lv_bipush (v := 120) hx hb dX3_init_66 (by decide) ?_
  refine nwG_int (n := 120) hx hb l_aint hK hP hD hS hA (by decide) rfl (Nat.le_of_ble_eq_true rfl) (by show _ ≤ 11; omega) (by show _ ≤ 906; omega) dX3_init_68 (fun q11 H hP hD hS => ?_)
  refine W.widen (k := 11) (n := 906) (by omega) (by omega) ?_
  have hP : va_P D vwCl [(h, .inr (3, [.null, .null, .ref q1, .ref q5, .ref q6, .ref q7, .ref q8, .ref q9, .ref q10, .null, .int 0, .int 0])), (q1, .inr (0, [.ref q2, .ref q3, .ref q4, .int 0, .int 0, .int (-1)])), (q2, .inl (y 0, 60, .inl (fun _ => 0))), (q3, .inl (y 0, 60, .inl (fun _ => 0))), (q4, .inl (y 0, 60, .inl (fun _ => 0))), (q5, .inl (y 0, 60, .inl (fun _ => 0))), (q6, .inl (y 0, 60, .inl (fun _ => 0))), (q7, .inl (y 0, 180, .inl (fun _ => 0))), (q8, .inl (y 0, 180, .inl (fun _ => 0))), (q9, .inl (y 0, 60, .inl (fun _ => 0))), (q10, .inl (y 3, 60, .inl (fun _ => 0))), (q11, .inl (y 0, 120, .inl (fun _ => 0)))] H := hP
  have hD : va_D A [(h, .inr (3, [.null, .null, .ref q1, .ref q5, .ref q6, .ref q7, .ref q8, .ref q9, .ref q10, .null, .int 0, .int 0])), (q1, .inr (0, [.ref q2, .ref q3, .ref q4, .int 0, .int 0, .int (-1)])), (q2, .inl (y 0, 60, .inl (fun _ => 0))), (q3, .inl (y 0, 60, .inl (fun _ => 0))), (q4, .inl (y 0, 60, .inl (fun _ => 0))), (q5, .inl (y 0, 60, .inl (fun _ => 0))), (q6, .inl (y 0, 60, .inl (fun _ => 0))), (q7, .inl (y 0, 180, .inl (fun _ => 0))), (q8, .inl (y 0, 180, .inl (fun _ => 0))), (q9, .inl (y 0, 60, .inl (fun _ => 0))), (q10, .inl (y 3, 60, .inl (fun _ => 0))), (q11, .inl (y 0, 120, .inl (fun _ => 0)))] := hD
  refine va_putF (D := D) (ci := 3) (v := .ref q11) (ty := .array .int) (C := RX3) (T := TX3) (N := 12) hx hb h_w (fun _ h => h) tyX3 tyX3_ok nmX3 hown hK hP hD hS 0 rfl rfl 9 (by decide) l_f38 (fun _ h9 => h9) rfl hin rfl (by decide +kernel) rfl rfl (Nat.le_of_ble_eq_true rfl) dX3_init_70 (fun H locs hP hD hS => ?_)
  have hP : va_P D vwCl [(h, .inr (3, [.null, .null, .ref q1, .ref q5, .ref q6, .ref q7, .ref q8, .ref q9, .ref q10, .ref q11, .int 0, .int 0])), (q1, .inr (0, [.ref q2, .ref q3, .ref q4, .int 0, .int 0, .int (-1)])), (q2, .inl (y 0, 60, .inl (fun _ => 0))), (q3, .inl (y 0, 60, .inl (fun _ => 0))), (q4, .inl (y 0, 60, .inl (fun _ => 0))), (q5, .inl (y 0, 60, .inl (fun _ => 0))), (q6, .inl (y 0, 60, .inl (fun _ => 0))), (q7, .inl (y 0, 180, .inl (fun _ => 0))), (q8, .inl (y 0, 180, .inl (fun _ => 0))), (q9, .inl (y 0, 60, .inl (fun _ => 0))), (q10, .inl (y 3, 60, .inl (fun _ => 0))), (q11, .inl (y 0, 120, .inl (fun _ => 0)))] H := hP
  have hD : va_D A [(h, .inr (3, [.null, .null, .ref q1, .ref q5, .ref q6, .ref q7, .ref q8, .ref q9, .ref q10, .ref q11, .int 0, .int 0])), (q1, .inr (0, [.ref q2, .ref q3, .ref q4, .int 0, .int 0, .int (-1)])), (q2, .inl (y 0, 60, .inl (fun _ => 0))), (q3, .inl (y 0, 60, .inl (fun _ => 0))), (q4, .inl (y 0, 60, .inl (fun _ => 0))), (q5, .inl (y 0, 60, .inl (fun _ => 0))), (q6, .inl (y 0, 60, .inl (fun _ => 0))), (q7, .inl (y 0, 180, .inl (fun _ => 0))), (q8, .inl (y 0, 180, .inl (fun _ => 0))), (q9, .inl (y 0, 60, .inl (fun _ => 0))), (q10, .inl (y 3, 60, .inl (fun _ => 0))), (q11, .inl (y 0, 120, .inl (fun _ => 0)))] := hD
  refine lv_aload_n hx hb dX3_init_73 rfl (lv_at hl 0 rfl) ?_
  refine lv_aload_n hx hb dX3_init_74 rfl (lv_at hl 1 rfl) ?_
  refine va_putF (D := D) (ci := 3) (v := .ref g1) (ty := .object "ProofDesk$Formulas") (C := RX3) (T := TX3) (N := 12) hx hb h_w (fun _ h => h) tyX3 tyX3_ok nmX3 hown hK hP hD hS 0 rfl rfl 0 (by decide) l_f41 (fun _ h9 => h9) rfl hin rfl (by decide +kernel) rfl rfl (Nat.le_of_ble_eq_true rfl) dX3_init_75 (fun H locs hP hD hS => ?_)
  have hP : va_P D vwCl [(h, .inr (3, [.ref g1, .null, .ref q1, .ref q5, .ref q6, .ref q7, .ref q8, .ref q9, .ref q10, .ref q11, .int 0, .int 0])), (q1, .inr (0, [.ref q2, .ref q3, .ref q4, .int 0, .int 0, .int (-1)])), (q2, .inl (y 0, 60, .inl (fun _ => 0))), (q3, .inl (y 0, 60, .inl (fun _ => 0))), (q4, .inl (y 0, 60, .inl (fun _ => 0))), (q5, .inl (y 0, 60, .inl (fun _ => 0))), (q6, .inl (y 0, 60, .inl (fun _ => 0))), (q7, .inl (y 0, 180, .inl (fun _ => 0))), (q8, .inl (y 0, 180, .inl (fun _ => 0))), (q9, .inl (y 0, 60, .inl (fun _ => 0))), (q10, .inl (y 3, 60, .inl (fun _ => 0))), (q11, .inl (y 0, 120, .inl (fun _ => 0)))] H := hP
  have hD : va_D A [(h, .inr (3, [.ref g1, .null, .ref q1, .ref q5, .ref q6, .ref q7, .ref q8, .ref q9, .ref q10, .ref q11, .int 0, .int 0])), (q1, .inr (0, [.ref q2, .ref q3, .ref q4, .int 0, .int 0, .int (-1)])), (q2, .inl (y 0, 60, .inl (fun _ => 0))), (q3, .inl (y 0, 60, .inl (fun _ => 0))), (q4, .inl (y 0, 60, .inl (fun _ => 0))), (q5, .inl (y 0, 60, .inl (fun _ => 0))), (q6, .inl (y 0, 60, .inl (fun _ => 0))), (q7, .inl (y 0, 180, .inl (fun _ => 0))), (q8, .inl (y 0, 180, .inl (fun _ => 0))), (q9, .inl (y 0, 60, .inl (fun _ => 0))), (q10, .inl (y 3, 60, .inl (fun _ => 0))), (q11, .inl (y 0, 120, .inl (fun _ => 0)))] := hD
  refine lv_aload_n hx hb dX3_init_78 rfl (lv_at hl 0 rfl) ?_
  refine lv_aload_n hx hb dX3_init_79 rfl (lv_at hl 2 rfl) ?_
  refine va_putF (D := D) (ci := 3) (v := .ref g2) (ty := .object "ProofDesk$Theorems") (C := RX3) (T := TX3) (N := 12) hx hb h_w (fun _ h => h) tyX3 tyX3_ok nmX3 hown hK hP hD hS 0 rfl rfl 1 (by decide) l_f45 (fun _ h9 => h9) rfl hin rfl (by decide +kernel) rfl rfl (Nat.le_of_ble_eq_true rfl) dX3_init_80 (fun H locs hP hD hS => ?_)
  have hP : va_P D vwCl [(h, .inr (3, [.ref g1, .ref g2, .ref q1, .ref q5, .ref q6, .ref q7, .ref q8, .ref q9, .ref q10, .ref q11, .int 0, .int 0])), (q1, .inr (0, [.ref q2, .ref q3, .ref q4, .int 0, .int 0, .int (-1)])), (q2, .inl (y 0, 60, .inl (fun _ => 0))), (q3, .inl (y 0, 60, .inl (fun _ => 0))), (q4, .inl (y 0, 60, .inl (fun _ => 0))), (q5, .inl (y 0, 60, .inl (fun _ => 0))), (q6, .inl (y 0, 60, .inl (fun _ => 0))), (q7, .inl (y 0, 180, .inl (fun _ => 0))), (q8, .inl (y 0, 180, .inl (fun _ => 0))), (q9, .inl (y 0, 60, .inl (fun _ => 0))), (q10, .inl (y 3, 60, .inl (fun _ => 0))), (q11, .inl (y 0, 120, .inl (fun _ => 0)))] H := hP
  have hD : va_D A [(h, .inr (3, [.ref g1, .ref g2, .ref q1, .ref q5, .ref q6, .ref q7, .ref q8, .ref q9, .ref q10, .ref q11, .int 0, .int 0])), (q1, .inr (0, [.ref q2, .ref q3, .ref q4, .int 0, .int 0, .int (-1)])), (q2, .inl (y 0, 60, .inl (fun _ => 0))), (q3, .inl (y 0, 60, .inl (fun _ => 0))), (q4, .inl (y 0, 60, .inl (fun _ => 0))), (q5, .inl (y 0, 60, .inl (fun _ => 0))), (q6, .inl (y 0, 60, .inl (fun _ => 0))), (q7, .inl (y 0, 180, .inl (fun _ => 0))), (q8, .inl (y 0, 180, .inl (fun _ => 0))), (q9, .inl (y 0, 60, .inl (fun _ => 0))), (q10, .inl (y 3, 60, .inl (fun _ => 0))), (q11, .inl (y 0, 120, .inl (fun _ => 0)))] := hD
  exact W.vret hx hb hr (fun T hT hW => ⟨⟨(), rfl, trivial, q1, q2, q3, q4, q5, q6, q7, q8, q9, q10, q11, by rw [hT]; exact hP, hD⟩, hS.F hT⟩) hS.2.2 dX3_init_83
theorem eX7_init : yX7_init.cls ≠ "java/lang/invoke/MethodHandle" ∧ yX7_init.cls ≠ "java/lang/invoke/VarHandle" ∧ (parseMethodDescriptor yX7_init.desc).map (fun d => d.parameters.length) = some 0 := by decide +kernel
set_option maxHeartbeats 4000000 in
set_option maxRecDepth 100000 in
theorem kX7_init (l : Launch) (D : va_G) (y : Nat → ClassId) (h : Nat) (sz : Nat) : Met l yX7_init zX7_init { frames := 3, cells := 36, slots := 5290, locals := 54 } (va_Pc [.ref h] (preI D y [(h, .inr (7, [.null, .null, .null, .null, .null, .null]))] sz)) (va_Qv (fun _ : Unit => True) (fun _ T => ∃ (q1 q2 q3 q4 q5 q6 q7 q8 q9 q10 q11 q12 q13 q14 q15 q16 q17 q18 q19 q20 q21 q22 q23 q24 q25 q26 q27 q28 q29 q30 q31 q32 q33 q34 q35 q36 : Nat), va_P D vwCl [(h, .inr (7, [.ref q1, .ref q9, .ref q11, .ref q15, .ref q23, .ref q35])), (q1, .inr (1, [.ref q2, .ref q3, .ref q4, .ref q5, .ref q6, .ref q7, .ref q8, .int 0])), (q2, .inl (y 0, 240, .inl (fun _ => 0))), (q3, .inl (y 0, 240, .inl (fun _ => 0))), (q4, .inl (y 0, 240, .inl (fun _ => 0))), (q5, .inl (y 0, 240, .inl (fun _ => 0))), (q6, .inl (y 0, 240, .inl (fun _ => 0))), (q7, .inl (y 0, 240, .inl (fun _ => 0))), (q8, .inl (y 2, 960, .inr (.inl (fun _ => 0)))), (q9, .inr (5, [.ref q1, .ref q10, .int 0, .int 0, .int (-1)])), (q10, .inl (y 1, 400, .inl (fun _ => 0))), (q11, .inr (2, [.ref q1, .ref q12, .ref q13, .ref q14, .int 0, .int 0])), (q12, .inl (y 1, 400, .inl (fun _ => 0))), (q13, .inl (y 0, 400, .inl (fun _ => 0))), (q14, .inl (y 0, 400, .inl (fun _ => 0))), (q15, .inr (6, [.ref q1, .ref q16, .ref q17, .ref q18, .ref q19, .ref q20, .ref q21, .ref q22, .int 0])), (q16, .inl (y 0, 16, .inl (fun _ => 0))), (q17, .inl (y 0, 16, .inl (fun _ => 0))), (q18, .inl (y 0, 16, .inl (fun _ => 0))), (q19, .inl (y 0, 16, .inl (fun _ => 0))), (q20, .inl (y 0, 16, .inl (fun _ => 0))), (q21, .inl (y 0, 16, .inl (fun _ => 0))), (q22, .inl (y 0, 240, .inl (fun _ => 0))), (q23, .inr (3, [.ref q1, .ref q15, .ref q24, .ref q28, .ref q29, .ref q30, .ref q31, .ref q32, .ref q33, .ref q34, .int 0, .int 0])), (q24, .inr (0, [.ref q25, .ref q26, .ref q27, .int 0, .int 0, .int (-1)])), (q25, .inl (y 0, 60, .inl (fun _ => 0))), (q26, .inl (y 0, 60, .inl (fun _ => 0))), (q27, .inl (y 0, 60, .inl (fun _ => 0))), (q28, .inl (y 0, 60, .inl (fun _ => 0))), (q29, .inl (y 0, 60, .inl (fun _ => 0))), (q30, .inl (y 0, 180, .inl (fun _ => 0))), (q31, .inl (y 0, 180, .inl (fun _ => 0))), (q32, .inl (y 0, 60, .inl (fun _ => 0))), (q33, .inl (y 3, 60, .inl (fun _ => 0))), (q34, .inl (y 0, 120, .inl (fun _ => 0))), (q35, .inr (4, [.ref q1, .ref q15, .ref q23, .ref q36])), (q36, .inl (y 0, 4, .inl (fun _ => 0)))] T.heap ∧ va_D (va_A [(h, .inr (7, [.null, .null, .null, .null, .null, .null]))] sz) [(h, .inr (7, [.ref q1, .ref q9, .ref q11, .ref q15, .ref q23, .ref q35])), (q1, .inr (1, [.ref q2, .ref q3, .ref q4, .ref q5, .ref q6, .ref q7, .ref q8, .int 0])), (q2, .inl (y 0, 240, .inl (fun _ => 0))), (q3, .inl (y 0, 240, .inl (fun _ => 0))), (q4, .inl (y 0, 240, .inl (fun _ => 0))), (q5, .inl (y 0, 240, .inl (fun _ => 0))), (q6, .inl (y 0, 240, .inl (fun _ => 0))), (q7, .inl (y 0, 240, .inl (fun _ => 0))), (q8, .inl (y 2, 960, .inr (.inl (fun _ => 0)))), (q9, .inr (5, [.ref q1, .ref q10, .int 0, .int 0, .int (-1)])), (q10, .inl (y 1, 400, .inl (fun _ => 0))), (q11, .inr (2, [.ref q1, .ref q12, .ref q13, .ref q14, .int 0, .int 0])), (q12, .inl (y 1, 400, .inl (fun _ => 0))), (q13, .inl (y 0, 400, .inl (fun _ => 0))), (q14, .inl (y 0, 400, .inl (fun _ => 0))), (q15, .inr (6, [.ref q1, .ref q16, .ref q17, .ref q18, .ref q19, .ref q20, .ref q21, .ref q22, .int 0])), (q16, .inl (y 0, 16, .inl (fun _ => 0))), (q17, .inl (y 0, 16, .inl (fun _ => 0))), (q18, .inl (y 0, 16, .inl (fun _ => 0))), (q19, .inl (y 0, 16, .inl (fun _ => 0))), (q20, .inl (y 0, 16, .inl (fun _ => 0))), (q21, .inl (y 0, 16, .inl (fun _ => 0))), (q22, .inl (y 0, 240, .inl (fun _ => 0))), (q23, .inr (3, [.ref q1, .ref q15, .ref q24, .ref q28, .ref q29, .ref q30, .ref q31, .ref q32, .ref q33, .ref q34, .int 0, .int 0])), (q24, .inr (0, [.ref q25, .ref q26, .ref q27, .int 0, .int 0, .int (-1)])), (q25, .inl (y 0, 60, .inl (fun _ => 0))), (q26, .inl (y 0, 60, .inl (fun _ => 0))), (q27, .inl (y 0, 60, .inl (fun _ => 0))), (q28, .inl (y 0, 60, .inl (fun _ => 0))), (q29, .inl (y 0, 60, .inl (fun _ => 0))), (q30, .inl (y 0, 180, .inl (fun _ => 0))), (q31, .inl (y 0, 180, .inl (fun _ => 0))), (q32, .inl (y 0, 60, .inl (fun _ => 0))), (q33, .inl (y 3, 60, .inl (fun _ => 0))), (q34, .inl (y 0, 120, .inl (fun _ => 0))), (q35, .inr (4, [.ref q1, .ref q15, .ref q23, .ref q36])), (q36, .inl (y 0, 4, .inl (fun _ => 0)))]) (va_A [(h, .inr (7, [.null, .null, .null, .null, .null, .null]))] sz)) 36 5290 (va_A [(h, .inr (7, [.null, .null, .null, .null, .null, .null]))] sz) := by
  refine Met.ofW (cc := cX7_init) (maxL := 1) (ret := none) (by decide) rfl ?_
  intro p e s m args below meth c s₁ B hml hv
  obtain ⟨rfl, hsz, hP, hK, hD0, hNX⟩ := hv
  have hx := B.exec
  have hb := B.bytes
  have hr := B.returns
  have hts := atoms_spec (ws := zX7_init) B.pre
  have hown : s.vm.findClass RX7 = some m.cls := findClass_of_methodNamed B.named
  have hlocks := B.notSynchronized
  have hin : meth.name = "<init>" := (name_of_methodNamed B.named B.method).1
  subst hsz
  have l_oM := hts _ (List.mem_cons_of_mem _ aM_X7_1)
  have l_oI := hts _ (List.mem_cons_of_mem _ aI_objectInit)
  have l_oC := hts _ (List.mem_cons_of_mem _ aC_objectInit)
  have l_L7 := hts _ (List.mem_cons_of_mem _ aL_X7_7)
  have l_XX1 := hts _ (List.mem_cons_of_mem _ aX_X1)
  have l_NX1 := hts _ (List.mem_cons_of_mem _ aN_X1)
  have l_IX1_init := hts _ (List.mem_cons_of_mem _ aI_X1_init)
  have l_f10 := hts _ (List.mem_cons_of_mem _ aF_X7_10)
  have l_L16 := hts _ (List.mem_cons_of_mem _ aL_X7_16)
  have l_XX5 := hts _ (List.mem_cons_of_mem _ aX_X5)
  have l_NX5 := hts _ (List.mem_cons_of_mem _ aN_X5)
  have l_M18 := hts _ (List.mem_cons_of_mem _ aM_X7_18)
  have l_IX5_init := hts _ (List.mem_cons_of_mem _ aI_X5_init)
  have l_f21 := hts _ (List.mem_cons_of_mem _ aF_X7_21)
  have l_L25 := hts _ (List.mem_cons_of_mem _ aL_X7_25)
  have l_XX2 := hts _ (List.mem_cons_of_mem _ aX_X2)
  have l_NX2 := hts _ (List.mem_cons_of_mem _ aN_X2)
  have l_M27 := hts _ (List.mem_cons_of_mem _ aM_X7_27)
  have l_IX2_init := hts _ (List.mem_cons_of_mem _ aI_X2_init)
  have l_f28 := hts _ (List.mem_cons_of_mem _ aF_X7_28)
  have l_L32 := hts _ (List.mem_cons_of_mem _ aL_X7_32)
  have l_XX6 := hts _ (List.mem_cons_of_mem _ aX_X6)
  have l_NX6 := hts _ (List.mem_cons_of_mem _ aN_X6)
  have l_M34 := hts _ (List.mem_cons_of_mem _ aM_X7_34)
  have l_IX6_init := hts _ (List.mem_cons_of_mem _ aI_X6_init)
  have l_f35 := hts _ (List.mem_cons_of_mem _ aF_X7_35)
  have l_L39 := hts _ (List.mem_cons_of_mem _ aL_X7_39)
  have l_XX3 := hts _ (List.mem_cons_of_mem _ aX_X3)
  have l_NX3 := hts _ (List.mem_cons_of_mem _ aN_X3)
  have l_M41 := hts _ (List.mem_cons_of_mem _ aM_X7_41)
  have l_IX3_init := hts _ (List.mem_cons_of_mem _ aI_X3_init)
  have l_f44 := hts _ (List.mem_cons_of_mem _ aF_X7_44)
  have l_L48 := hts _ (List.mem_cons_of_mem _ aL_X7_48)
  have l_XX4 := hts _ (List.mem_cons_of_mem _ aX_X4)
  have l_NX4 := hts _ (List.mem_cons_of_mem _ aN_X4)
  have l_M50 := hts _ (List.mem_cons_of_mem _ aM_X7_50)
  have l_IX4_init := hts _ (List.mem_cons_of_mem _ aI_X4_init)
  have l_f53 := hts _ (List.mem_cons_of_mem _ aF_X7_53)
  have h_w : ∀ w ∈ wsX70, w.before _ s = true := fun w hw => hts w (List.mem_cons_of_mem _ (hwX7 w hw))
  have h_wX1 : ∀ w ∈ wsX10, w.before _ s = true := fun w hw => hts w (List.mem_cons_of_mem _ (hwX1 w hw))
  have h_wX5 : ∀ w ∈ wsX50, w.before _ s = true := fun w hw => hts w (List.mem_cons_of_mem _ (hwX5 w hw))
  have h_wX2 : ∀ w ∈ wsX20, w.before _ s = true := fun w hw => hts w (List.mem_cons_of_mem _ (hwX2 w hw))
  have h_wX6 : ∀ w ∈ wsX60, w.before _ s = true := fun w hw => hts w (List.mem_cons_of_mem _ (hwX6 w hw))
  have h_wX3 : ∀ w ∈ wsX30, w.before _ s = true := fun w hw => hts w (List.mem_cons_of_mem _ (hwX3 w hw))
  have h_wX4 : ∀ w ∈ wsX40, w.before _ s = true := fun w hw => hts w (List.mem_cons_of_mem _ (hwX4 w hw))
  have hD := hD0.self (sz := s.heap.size)
  generalize hAe : va_A [(h, .inr (7, [.null, .null, .null, .null, .null, .null]))] s.heap.size = A at hD ⊢
  have hA : ∀ q : Nat, s.heap.size ≤ q → A q := fun q h => by rw [← hAe]; exact Or.inr h
  have hS : va_S A s.heap s.heap [] := va_S.rf
  have hl := lv_entry ([.ref h]) (n := 1) (Nat.le_of_ble_eq_true rfl)
  rw [lg_entry_eq]
  generalize (lg_sl ([.ref h]) ++ List.replicate (1 - (lg_sl ([.ref h])).length) Slot.unset).toArray = ls at hl ⊢
  have hl : lv_has ls 1 [(0, .ref h)] := hl
  refine lv_aload_n hx hb dX7_init_0 rfl (lv_at hl 0 rfl) ?_
  refine W.objInit hx hb hown l_oM l_oI l_oC rfl (by rw [hml]; exact hl.1) rfl dX7_init_1 (Nat.le_of_ble_eq_true rfl) (Nat.le_of_ble_eq_true rfl) ?_
  refine W.eq (g2 := F0 m 4 ls []) rfl ?_
  refine lv_aload_n hx hb dX7_init_4 rfl (lv_at hl 0 rfl) ?_
  refine va_new (ci := 1) (fs := [.null, .null, .null, .null, .null, .null, .null, .int 0]) (C := RX1) (T := TX1) (N := 8) hx hb h_wX1 (fun _ h => h) tyX1 tyX1_ok hown l_L7 l_XX1 l_NX1 hK hP hD hS hA rfl (fun j hj => by rcases (show j = 0 ∨ j = 1 ∨ j = 2 ∨ j = 3 ∨ j = 4 ∨ j = 5 ∨ j = 6 ∨ j = 7 by omega) with rfl | rfl | rfl | rfl | rfl | rfl | rfl | rfl <;> rfl) (by show _ ≤ 36; omega) (by show _ ≤ 5290; omega) dX7_init_5 (fun q1 H hP hD hS => ?_)
  refine W.widen (k := 1) (n := 8) (by omega) (by omega) ?_
  have hP : va_P D vwCl [(h, .inr (7, [.null, .null, .null, .null, .null, .null])), (q1, .inr (1, [.null, .null, .null, .null, .null, .null, .null, .int 0]))] H := hP
  have hD : va_D A [(h, .inr (7, [.null, .null, .null, .null, .null, .null])), (q1, .inr (1, [.null, .null, .null, .null, .null, .null, .null, .int 0]))] := hD
  refine lv_dup hx hb dX7_init_8 rfl ?_
  have hPc := hP.sub (ws' := [(q1, .inr (1, [.null, .null, .null, .null, .null, .null, .null, .int 0]))]) [1] rfl
  have hFc := va_free (wc := [(q1, .inr (1, [.null, .null, .null, .null, .null, .null, .null, .int 0]))]) hD hS hA [1] rfl
  have hDc := hD.sub (ws' := [(q1, .inr (1, [.null, .null, .null, .null, .null, .null, .null, .int 0]))]) [1] (by decide) rfl
  refine va_callv (va_runIN (As := []) (rest := [.ref q1, .ref h]) ⟨hx, hb, hml, hown, hts⟩ (kX1_init l D y q1 _) (⟨va_cnB (host := "ProofDesk") 0 hts (gAI aC_X1_init) rfl rfl rfl hNX.1 l_NX1 eX1_init ⟨Nat.le_of_ble_eq_true rfl, Nat.le_of_ble_eq_true rfl⟩, rfl, l_IX1_init⟩) ⟨preI_blind, fun U hU hW => ⟨rfl, by rw [hU], by rw [hU]; exact hPc, va_K.moved hW.alike hK, hDc.weaken (fun _ _ _ _ => trivial), hNX.warm hW⟩⟩ rfl rfl hl.1 rfl (lv_room (Nat.le_of_ble_eq_true rfl)) dX7_init_9 ⟨by show _ ≤ 36; omega, by show _ ≤ 5290; omega⟩) hS (fun q _ h => hFc q h) hFc (fun u T H1 locs ht hvm hw hB hz1 hk1 hS => ?_)
  obtain ⟨q2, q3, q4, q5, q6, q7, q8, hP1, hD1⟩ := hB
  rw [ht] at hP1
  obtain ⟨hP, hD⟩ := va_join (wr := [(h, .inr (7, [.null, .null, .null, .null, .null, .null]))]) (w1 := [(q1, .inr (1, [.ref q2, .ref q3, .ref q4, .ref q5, .ref q6, .ref q7, .ref q8, .int 0])), (q2, .inl (y 0, 240, .inl (fun _ => 0))), (q3, .inl (y 0, 240, .inl (fun _ => 0))), (q4, .inl (y 0, 240, .inl (fun _ => 0))), (q5, .inl (y 0, 240, .inl (fun _ => 0))), (q6, .inl (y 0, 240, .inl (fun _ => 0))), (q7, .inl (y 0, 240, .inl (fun _ => 0))), (q8, .inl (y 2, 960, .inr (.inl (fun _ => 0))))]) hP hD [1] [0] rfl rfl (by decide) (by decide) hk1 hFc hP1 hD1
  generalize H1 = H at hP hS ⊢
  refine W.widen (k := 8) (n := 2408) (by omega) (by omega) ?_
  have hP : va_P D vwCl [(h, .inr (7, [.null, .null, .null, .null, .null, .null])), (q1, .inr (1, [.ref q2, .ref q3, .ref q4, .ref q5, .ref q6, .ref q7, .ref q8, .int 0])), (q2, .inl (y 0, 240, .inl (fun _ => 0))), (q3, .inl (y 0, 240, .inl (fun _ => 0))), (q4, .inl (y 0, 240, .inl (fun _ => 0))), (q5, .inl (y 0, 240, .inl (fun _ => 0))), (q6, .inl (y 0, 240, .inl (fun _ => 0))), (q7, .inl (y 0, 240, .inl (fun _ => 0))), (q8, .inl (y 2, 960, .inr (.inl (fun _ => 0))))] H := hP
  have hD : va_D A [(h, .inr (7, [.null, .null, .null, .null, .null, .null])), (q1, .inr (1, [.ref q2, .ref q3, .ref q4, .ref q5, .ref q6, .ref q7, .ref q8, .int 0])), (q2, .inl (y 0, 240, .inl (fun _ => 0))), (q3, .inl (y 0, 240, .inl (fun _ => 0))), (q4, .inl (y 0, 240, .inl (fun _ => 0))), (q5, .inl (y 0, 240, .inl (fun _ => 0))), (q6, .inl (y 0, 240, .inl (fun _ => 0))), (q7, .inl (y 0, 240, .inl (fun _ => 0))), (q8, .inl (y 2, 960, .inr (.inl (fun _ => 0))))] := hD
  refine va_putF (D := D) (ci := 7) (v := .ref q1) (ty := .object "ProofDesk$Formulas") (C := RX7) (T := TX7) (N := 6) hx hb h_w (fun _ h => h) tyX7 tyX7_ok nmX7 hown hK hP hD hS 0 rfl rfl 0 (by decide) l_f10 (fun _ h9 => h9) rfl hin rfl (by decide +kernel) rfl rfl (Nat.le_of_ble_eq_true rfl) dX7_init_12 (fun H locs hP hD hS => ?_)
  have hP : va_P D vwCl [(h, .inr (7, [.ref q1, .null, .null, .null, .null, .null])), (q1, .inr (1, [.ref q2, .ref q3, .ref q4, .ref q5, .ref q6, .ref q7, .ref q8, .int 0])), (q2, .inl (y 0, 240, .inl (fun _ => 0))), (q3, .inl (y 0, 240, .inl (fun _ => 0))), (q4, .inl (y 0, 240, .inl (fun _ => 0))), (q5, .inl (y 0, 240, .inl (fun _ => 0))), (q6, .inl (y 0, 240, .inl (fun _ => 0))), (q7, .inl (y 0, 240, .inl (fun _ => 0))), (q8, .inl (y 2, 960, .inr (.inl (fun _ => 0))))] H := hP
  have hD : va_D A [(h, .inr (7, [.ref q1, .null, .null, .null, .null, .null])), (q1, .inr (1, [.ref q2, .ref q3, .ref q4, .ref q5, .ref q6, .ref q7, .ref q8, .int 0])), (q2, .inl (y 0, 240, .inl (fun _ => 0))), (q3, .inl (y 0, 240, .inl (fun _ => 0))), (q4, .inl (y 0, 240, .inl (fun _ => 0))), (q5, .inl (y 0, 240, .inl (fun _ => 0))), (q6, .inl (y 0, 240, .inl (fun _ => 0))), (q7, .inl (y 0, 240, .inl (fun _ => 0))), (q8, .inl (y 2, 960, .inr (.inl (fun _ => 0))))] := hD
  refine lv_aload_n hx hb dX7_init_15 rfl (lv_at hl 0 rfl) ?_
  refine va_new (ci := 5) (fs := [.null, .null, .int 0, .int 0, .int 0]) (C := RX5) (T := TX5) (N := 5) hx hb h_wX5 (fun _ h => h) tyX5 tyX5_ok hown l_L16 l_XX5 l_NX5 hK hP hD hS hA rfl (fun j hj => by rcases (show j = 0 ∨ j = 1 ∨ j = 2 ∨ j = 3 ∨ j = 4 by omega) with rfl | rfl | rfl | rfl | rfl <;> rfl) (by show _ ≤ 36; omega) (by show _ ≤ 5290; omega) dX7_init_16 (fun q9 H hP hD hS => ?_)
  refine W.widen (k := 9) (n := 2413) (by omega) (by omega) ?_
  have hP : va_P D vwCl [(h, .inr (7, [.ref q1, .null, .null, .null, .null, .null])), (q1, .inr (1, [.ref q2, .ref q3, .ref q4, .ref q5, .ref q6, .ref q7, .ref q8, .int 0])), (q2, .inl (y 0, 240, .inl (fun _ => 0))), (q3, .inl (y 0, 240, .inl (fun _ => 0))), (q4, .inl (y 0, 240, .inl (fun _ => 0))), (q5, .inl (y 0, 240, .inl (fun _ => 0))), (q6, .inl (y 0, 240, .inl (fun _ => 0))), (q7, .inl (y 0, 240, .inl (fun _ => 0))), (q8, .inl (y 2, 960, .inr (.inl (fun _ => 0)))), (q9, .inr (5, [.null, .null, .int 0, .int 0, .int 0]))] H := hP
  have hD : va_D A [(h, .inr (7, [.ref q1, .null, .null, .null, .null, .null])), (q1, .inr (1, [.ref q2, .ref q3, .ref q4, .ref q5, .ref q6, .ref q7, .ref q8, .int 0])), (q2, .inl (y 0, 240, .inl (fun _ => 0))), (q3, .inl (y 0, 240, .inl (fun _ => 0))), (q4, .inl (y 0, 240, .inl (fun _ => 0))), (q5, .inl (y 0, 240, .inl (fun _ => 0))), (q6, .inl (y 0, 240, .inl (fun _ => 0))), (q7, .inl (y 0, 240, .inl (fun _ => 0))), (q8, .inl (y 2, 960, .inr (.inl (fun _ => 0)))), (q9, .inr (5, [.null, .null, .int 0, .int 0, .int 0]))] := hD
  refine lv_dup hx hb dX7_init_19 rfl ?_
  refine lv_aload_n hx hb dX7_init_20 rfl (lv_at hl 0 rfl) ?_
  refine va_get (D := D) (ci := 7) (v := .ref q1) (C := RX7) (T := TX7) (N := 6) hx hb h_w (fun _ h => h) hown hK hP 0 rfl rfl 0 (by decide) l_f10 (fun _ h9 => h9) rfl dX7_init_21 ?_
  have hPc := hP.sub (ws' := [(q9, .inr (5, [.null, .null, .int 0, .int 0, .int 0]))]) [9] rfl
  have hFc := va_free (wc := [(q9, .inr (5, [.null, .null, .int 0, .int 0, .int 0]))]) hD hS hA [9] rfl
  have hDc := hD.sub (ws' := [(q9, .inr (5, [.null, .null, .int 0, .int 0, .int 0]))]) [9] (by decide) rfl
  refine va_callv (va_runI (As := [.ref q1]) (rest := [.ref q9, .ref h]) ⟨hx, hb, hml, hown, hts⟩ (kX5_init l D y q9 q1 _) (cwI 1 hts (gAI aC_X5_init) rfl rfl rfl l_NX5 l_M18 l_IX5_init rfl eX5_init ⟨Nat.le_of_ble_eq_true rfl, Nat.le_of_ble_eq_true rfl⟩) ⟨preI_blind, fun U hU hW => ⟨rfl, by rw [hU], by rw [hU]; exact hPc, va_K.moved hW.alike hK, hDc.weaken (fun _ _ _ _ => trivial), hNX.warm hW⟩⟩ rfl rfl hl.1 rfl (lv_room (Nat.le_of_ble_eq_true rfl)) dX7_init_24 ⟨by show _ ≤ 36; omega, by show _ ≤ 5290; omega⟩) hS (fun q _ h => hFc q h) hFc (fun u T H1 locs ht hvm hw hB hz1 hk1 hS => ?_)
  obtain ⟨q10, hP1, hD1⟩ := hB
  rw [ht] at hP1
  obtain ⟨hP, hD⟩ := va_join (wr := [(h, .inr (7, [.ref q1, .null, .null, .null, .null, .null])), (q1, .inr (1, [.ref q2, .ref q3, .ref q4, .ref q5, .ref q6, .ref q7, .ref q8, .int 0])), (q2, .inl (y 0, 240, .inl (fun _ => 0))), (q3, .inl (y 0, 240, .inl (fun _ => 0))), (q4, .inl (y 0, 240, .inl (fun _ => 0))), (q5, .inl (y 0, 240, .inl (fun _ => 0))), (q6, .inl (y 0, 240, .inl (fun _ => 0))), (q7, .inl (y 0, 240, .inl (fun _ => 0))), (q8, .inl (y 2, 960, .inr (.inl (fun _ => 0))))]) (w1 := [(q9, .inr (5, [.ref q1, .ref q10, .int 0, .int 0, .int (-1)])), (q10, .inl (y 1, 400, .inl (fun _ => 0)))]) hP hD [9] [0, 1, 2, 3, 4, 5, 6, 7, 8] rfl rfl (by decide) (by decide) hk1 hFc hP1 hD1
  generalize H1 = H at hP hS ⊢
  refine W.widen (k := 10) (n := 2813) (by omega) (by omega) ?_
  have hP : va_P D vwCl [(h, .inr (7, [.ref q1, .null, .null, .null, .null, .null])), (q1, .inr (1, [.ref q2, .ref q3, .ref q4, .ref q5, .ref q6, .ref q7, .ref q8, .int 0])), (q2, .inl (y 0, 240, .inl (fun _ => 0))), (q3, .inl (y 0, 240, .inl (fun _ => 0))), (q4, .inl (y 0, 240, .inl (fun _ => 0))), (q5, .inl (y 0, 240, .inl (fun _ => 0))), (q6, .inl (y 0, 240, .inl (fun _ => 0))), (q7, .inl (y 0, 240, .inl (fun _ => 0))), (q8, .inl (y 2, 960, .inr (.inl (fun _ => 0)))), (q9, .inr (5, [.ref q1, .ref q10, .int 0, .int 0, .int (-1)])), (q10, .inl (y 1, 400, .inl (fun _ => 0)))] H := hP
  have hD : va_D A [(h, .inr (7, [.ref q1, .null, .null, .null, .null, .null])), (q1, .inr (1, [.ref q2, .ref q3, .ref q4, .ref q5, .ref q6, .ref q7, .ref q8, .int 0])), (q2, .inl (y 0, 240, .inl (fun _ => 0))), (q3, .inl (y 0, 240, .inl (fun _ => 0))), (q4, .inl (y 0, 240, .inl (fun _ => 0))), (q5, .inl (y 0, 240, .inl (fun _ => 0))), (q6, .inl (y 0, 240, .inl (fun _ => 0))), (q7, .inl (y 0, 240, .inl (fun _ => 0))), (q8, .inl (y 2, 960, .inr (.inl (fun _ => 0)))), (q9, .inr (5, [.ref q1, .ref q10, .int 0, .int 0, .int (-1)])), (q10, .inl (y 1, 400, .inl (fun _ => 0)))] := hD
  refine va_putF (D := D) (ci := 7) (v := .ref q9) (ty := .object "ProofDesk$Tape") (C := RX7) (T := TX7) (N := 6) hx hb h_w (fun _ h => h) tyX7 tyX7_ok nmX7 hown hK hP hD hS 0 rfl rfl 1 (by decide) l_f21 (fun _ h9 => h9) rfl hin rfl (by decide +kernel) rfl rfl (Nat.le_of_ble_eq_true rfl) dX7_init_27 (fun H locs hP hD hS => ?_)
  have hP : va_P D vwCl [(h, .inr (7, [.ref q1, .ref q9, .null, .null, .null, .null])), (q1, .inr (1, [.ref q2, .ref q3, .ref q4, .ref q5, .ref q6, .ref q7, .ref q8, .int 0])), (q2, .inl (y 0, 240, .inl (fun _ => 0))), (q3, .inl (y 0, 240, .inl (fun _ => 0))), (q4, .inl (y 0, 240, .inl (fun _ => 0))), (q5, .inl (y 0, 240, .inl (fun _ => 0))), (q6, .inl (y 0, 240, .inl (fun _ => 0))), (q7, .inl (y 0, 240, .inl (fun _ => 0))), (q8, .inl (y 2, 960, .inr (.inl (fun _ => 0)))), (q9, .inr (5, [.ref q1, .ref q10, .int 0, .int 0, .int (-1)])), (q10, .inl (y 1, 400, .inl (fun _ => 0)))] H := hP
  have hD : va_D A [(h, .inr (7, [.ref q1, .ref q9, .null, .null, .null, .null])), (q1, .inr (1, [.ref q2, .ref q3, .ref q4, .ref q5, .ref q6, .ref q7, .ref q8, .int 0])), (q2, .inl (y 0, 240, .inl (fun _ => 0))), (q3, .inl (y 0, 240, .inl (fun _ => 0))), (q4, .inl (y 0, 240, .inl (fun _ => 0))), (q5, .inl (y 0, 240, .inl (fun _ => 0))), (q6, .inl (y 0, 240, .inl (fun _ => 0))), (q7, .inl (y 0, 240, .inl (fun _ => 0))), (q8, .inl (y 2, 960, .inr (.inl (fun _ => 0)))), (q9, .inr (5, [.ref q1, .ref q10, .int 0, .int 0, .int (-1)])), (q10, .inl (y 1, 400, .inl (fun _ => 0)))] := hD
  refine lv_aload_n hx hb dX7_init_30 rfl (lv_at hl 0 rfl) ?_
  refine va_new (ci := 2) (fs := [.null, .null, .null, .null, .int 0, .int 0]) (C := RX2) (T := TX2) (N := 6) hx hb h_wX2 (fun _ h => h) tyX2 tyX2_ok hown l_L25 l_XX2 l_NX2 hK hP hD hS hA rfl (fun j hj => by rcases (show j = 0 ∨ j = 1 ∨ j = 2 ∨ j = 3 ∨ j = 4 ∨ j = 5 by omega) with rfl | rfl | rfl | rfl | rfl | rfl <;> rfl) (by show _ ≤ 36; omega) (by show _ ≤ 5290; omega) dX7_init_31 (fun q11 H hP hD hS => ?_)
  refine W.widen (k := 11) (n := 2819) (by omega) (by omega) ?_
  have hP : va_P D vwCl [(h, .inr (7, [.ref q1, .ref q9, .null, .null, .null, .null])), (q1, .inr (1, [.ref q2, .ref q3, .ref q4, .ref q5, .ref q6, .ref q7, .ref q8, .int 0])), (q2, .inl (y 0, 240, .inl (fun _ => 0))), (q3, .inl (y 0, 240, .inl (fun _ => 0))), (q4, .inl (y 0, 240, .inl (fun _ => 0))), (q5, .inl (y 0, 240, .inl (fun _ => 0))), (q6, .inl (y 0, 240, .inl (fun _ => 0))), (q7, .inl (y 0, 240, .inl (fun _ => 0))), (q8, .inl (y 2, 960, .inr (.inl (fun _ => 0)))), (q9, .inr (5, [.ref q1, .ref q10, .int 0, .int 0, .int (-1)])), (q10, .inl (y 1, 400, .inl (fun _ => 0))), (q11, .inr (2, [.null, .null, .null, .null, .int 0, .int 0]))] H := hP
  have hD : va_D A [(h, .inr (7, [.ref q1, .ref q9, .null, .null, .null, .null])), (q1, .inr (1, [.ref q2, .ref q3, .ref q4, .ref q5, .ref q6, .ref q7, .ref q8, .int 0])), (q2, .inl (y 0, 240, .inl (fun _ => 0))), (q3, .inl (y 0, 240, .inl (fun _ => 0))), (q4, .inl (y 0, 240, .inl (fun _ => 0))), (q5, .inl (y 0, 240, .inl (fun _ => 0))), (q6, .inl (y 0, 240, .inl (fun _ => 0))), (q7, .inl (y 0, 240, .inl (fun _ => 0))), (q8, .inl (y 2, 960, .inr (.inl (fun _ => 0)))), (q9, .inr (5, [.ref q1, .ref q10, .int 0, .int 0, .int (-1)])), (q10, .inl (y 1, 400, .inl (fun _ => 0))), (q11, .inr (2, [.null, .null, .null, .null, .int 0, .int 0]))] := hD
  refine lv_dup hx hb dX7_init_34 rfl ?_
  refine lv_aload_n hx hb dX7_init_35 rfl (lv_at hl 0 rfl) ?_
  refine va_get (D := D) (ci := 7) (v := .ref q1) (C := RX7) (T := TX7) (N := 6) hx hb h_w (fun _ h => h) hown hK hP 0 rfl rfl 0 (by decide) l_f10 (fun _ h9 => h9) rfl dX7_init_36 ?_
  have hPc := hP.sub (ws' := [(q11, .inr (2, [.null, .null, .null, .null, .int 0, .int 0]))]) [11] rfl
  have hFc := va_free (wc := [(q11, .inr (2, [.null, .null, .null, .null, .int 0, .int 0]))]) hD hS hA [11] rfl
  have hDc := hD.sub (ws' := [(q11, .inr (2, [.null, .null, .null, .null, .int 0, .int 0]))]) [11] (by decide) rfl
  refine va_callv (va_runI (As := [.ref q1]) (rest := [.ref q11, .ref h]) ⟨hx, hb, hml, hown, hts⟩ (kX2_init l D y q11 q1 _) (cwI 1 hts (gAI aC_X2_init) rfl rfl rfl l_NX2 l_M27 l_IX2_init rfl eX2_init ⟨Nat.le_of_ble_eq_true rfl, Nat.le_of_ble_eq_true rfl⟩) ⟨preI_blind, fun U hU hW => ⟨rfl, by rw [hU], by rw [hU]; exact hPc, va_K.moved hW.alike hK, hDc.weaken (fun _ _ _ _ => trivial), hNX.warm hW⟩⟩ rfl rfl hl.1 rfl (lv_room (Nat.le_of_ble_eq_true rfl)) dX7_init_39 ⟨by show _ ≤ 36; omega, by show _ ≤ 5290; omega⟩) hS (fun q _ h => hFc q h) hFc (fun u T H1 locs ht hvm hw hB hz1 hk1 hS => ?_)
  obtain ⟨q12, q13, q14, hP1, hD1⟩ := hB
  rw [ht] at hP1
  obtain ⟨hP, hD⟩ := va_join (wr := [(h, .inr (7, [.ref q1, .ref q9, .null, .null, .null, .null])), (q1, .inr (1, [.ref q2, .ref q3, .ref q4, .ref q5, .ref q6, .ref q7, .ref q8, .int 0])), (q2, .inl (y 0, 240, .inl (fun _ => 0))), (q3, .inl (y 0, 240, .inl (fun _ => 0))), (q4, .inl (y 0, 240, .inl (fun _ => 0))), (q5, .inl (y 0, 240, .inl (fun _ => 0))), (q6, .inl (y 0, 240, .inl (fun _ => 0))), (q7, .inl (y 0, 240, .inl (fun _ => 0))), (q8, .inl (y 2, 960, .inr (.inl (fun _ => 0)))), (q9, .inr (5, [.ref q1, .ref q10, .int 0, .int 0, .int (-1)])), (q10, .inl (y 1, 400, .inl (fun _ => 0)))]) (w1 := [(q11, .inr (2, [.ref q1, .ref q12, .ref q13, .ref q14, .int 0, .int 0])), (q12, .inl (y 1, 400, .inl (fun _ => 0))), (q13, .inl (y 0, 400, .inl (fun _ => 0))), (q14, .inl (y 0, 400, .inl (fun _ => 0)))]) hP hD [11] [0, 1, 2, 3, 4, 5, 6, 7, 8, 9, 10] rfl rfl (by decide) (by decide) hk1 hFc hP1 hD1
  generalize H1 = H at hP hS ⊢
  refine W.widen (k := 14) (n := 4019) (by omega) (by omega) ?_
  have hP : va_P D vwCl [(h, .inr (7, [.ref q1, .ref q9, .null, .null, .null, .null])), (q1, .inr (1, [.ref q2, .ref q3, .ref q4, .ref q5, .ref q6, .ref q7, .ref q8, .int 0])), (q2, .inl (y 0, 240, .inl (fun _ => 0))), (q3, .inl (y 0, 240, .inl (fun _ => 0))), (q4, .inl (y 0, 240, .inl (fun _ => 0))), (q5, .inl (y 0, 240, .inl (fun _ => 0))), (q6, .inl (y 0, 240, .inl (fun _ => 0))), (q7, .inl (y 0, 240, .inl (fun _ => 0))), (q8, .inl (y 2, 960, .inr (.inl (fun _ => 0)))), (q9, .inr (5, [.ref q1, .ref q10, .int 0, .int 0, .int (-1)])), (q10, .inl (y 1, 400, .inl (fun _ => 0))), (q11, .inr (2, [.ref q1, .ref q12, .ref q13, .ref q14, .int 0, .int 0])), (q12, .inl (y 1, 400, .inl (fun _ => 0))), (q13, .inl (y 0, 400, .inl (fun _ => 0))), (q14, .inl (y 0, 400, .inl (fun _ => 0)))] H := hP
  have hD : va_D A [(h, .inr (7, [.ref q1, .ref q9, .null, .null, .null, .null])), (q1, .inr (1, [.ref q2, .ref q3, .ref q4, .ref q5, .ref q6, .ref q7, .ref q8, .int 0])), (q2, .inl (y 0, 240, .inl (fun _ => 0))), (q3, .inl (y 0, 240, .inl (fun _ => 0))), (q4, .inl (y 0, 240, .inl (fun _ => 0))), (q5, .inl (y 0, 240, .inl (fun _ => 0))), (q6, .inl (y 0, 240, .inl (fun _ => 0))), (q7, .inl (y 0, 240, .inl (fun _ => 0))), (q8, .inl (y 2, 960, .inr (.inl (fun _ => 0)))), (q9, .inr (5, [.ref q1, .ref q10, .int 0, .int 0, .int (-1)])), (q10, .inl (y 1, 400, .inl (fun _ => 0))), (q11, .inr (2, [.ref q1, .ref q12, .ref q13, .ref q14, .int 0, .int 0])), (q12, .inl (y 1, 400, .inl (fun _ => 0))), (q13, .inl (y 0, 400, .inl (fun _ => 0))), (q14, .inl (y 0, 400, .inl (fun _ => 0)))] := hD
  refine va_putF (D := D) (ci := 7) (v := .ref q11) (ty := .object "ProofDesk$Paper") (C := RX7) (T := TX7) (N := 6) hx hb h_w (fun _ h => h) tyX7 tyX7_ok nmX7 hown hK hP hD hS 0 rfl rfl 2 (by decide) l_f28 (fun _ h9 => h9) rfl hin rfl (by decide +kernel) rfl rfl (Nat.le_of_ble_eq_true rfl) dX7_init_42 (fun H locs hP hD hS => ?_)
  have hP : va_P D vwCl [(h, .inr (7, [.ref q1, .ref q9, .ref q11, .null, .null, .null])), (q1, .inr (1, [.ref q2, .ref q3, .ref q4, .ref q5, .ref q6, .ref q7, .ref q8, .int 0])), (q2, .inl (y 0, 240, .inl (fun _ => 0))), (q3, .inl (y 0, 240, .inl (fun _ => 0))), (q4, .inl (y 0, 240, .inl (fun _ => 0))), (q5, .inl (y 0, 240, .inl (fun _ => 0))), (q6, .inl (y 0, 240, .inl (fun _ => 0))), (q7, .inl (y 0, 240, .inl (fun _ => 0))), (q8, .inl (y 2, 960, .inr (.inl (fun _ => 0)))), (q9, .inr (5, [.ref q1, .ref q10, .int 0, .int 0, .int (-1)])), (q10, .inl (y 1, 400, .inl (fun _ => 0))), (q11, .inr (2, [.ref q1, .ref q12, .ref q13, .ref q14, .int 0, .int 0])), (q12, .inl (y 1, 400, .inl (fun _ => 0))), (q13, .inl (y 0, 400, .inl (fun _ => 0))), (q14, .inl (y 0, 400, .inl (fun _ => 0)))] H := hP
  have hD : va_D A [(h, .inr (7, [.ref q1, .ref q9, .ref q11, .null, .null, .null])), (q1, .inr (1, [.ref q2, .ref q3, .ref q4, .ref q5, .ref q6, .ref q7, .ref q8, .int 0])), (q2, .inl (y 0, 240, .inl (fun _ => 0))), (q3, .inl (y 0, 240, .inl (fun _ => 0))), (q4, .inl (y 0, 240, .inl (fun _ => 0))), (q5, .inl (y 0, 240, .inl (fun _ => 0))), (q6, .inl (y 0, 240, .inl (fun _ => 0))), (q7, .inl (y 0, 240, .inl (fun _ => 0))), (q8, .inl (y 2, 960, .inr (.inl (fun _ => 0)))), (q9, .inr (5, [.ref q1, .ref q10, .int 0, .int 0, .int (-1)])), (q10, .inl (y 1, 400, .inl (fun _ => 0))), (q11, .inr (2, [.ref q1, .ref q12, .ref q13, .ref q14, .int 0, .int 0])), (q12, .inl (y 1, 400, .inl (fun _ => 0))), (q13, .inl (y 0, 400, .inl (fun _ => 0))), (q14, .inl (y 0, 400, .inl (fun _ => 0)))] := hD
  refine lv_aload_n hx hb dX7_init_45 rfl (lv_at hl 0 rfl) ?_
  refine va_new (ci := 6) (fs := [.null, .null, .null, .null, .null, .null, .null, .null, .int 0]) (C := RX6) (T := TX6) (N := 9) hx hb h_wX6 (fun _ h => h) tyX6 tyX6_ok hown l_L32 l_XX6 l_NX6 hK hP hD hS hA rfl (fun j hj => by rcases (show j = 0 ∨ j = 1 ∨ j = 2 ∨ j = 3 ∨ j = 4 ∨ j = 5 ∨ j = 6 ∨ j = 7 ∨ j = 8 by omega) with rfl | rfl | rfl | rfl | rfl | rfl | rfl | rfl | rfl <;> rfl) (by show _ ≤ 36; omega) (by show _ ≤ 5290; omega) dX7_init_46 (fun q15 H hP hD hS => ?_)
  refine W.widen (k := 15) (n := 4028) (by omega) (by omega) ?_
  have hP : va_P D vwCl [(h, .inr (7, [.ref q1, .ref q9, .ref q11, .null, .null, .null])), (q1, .inr (1, [.ref q2, .ref q3, .ref q4, .ref q5, .ref q6, .ref q7, .ref q8, .int 0])), (q2, .inl (y 0, 240, .inl (fun _ => 0))), (q3, .inl (y 0, 240, .inl (fun _ => 0))), (q4, .inl (y 0, 240, .inl (fun _ => 0))), (q5, .inl (y 0, 240, .inl (fun _ => 0))), (q6, .inl (y 0, 240, .inl (fun _ => 0))), (q7, .inl (y 0, 240, .inl (fun _ => 0))), (q8, .inl (y 2, 960, .inr (.inl (fun _ => 0)))), (q9, .inr (5, [.ref q1, .ref q10, .int 0, .int 0, .int (-1)])), (q10, .inl (y 1, 400, .inl (fun _ => 0))), (q11, .inr (2, [.ref q1, .ref q12, .ref q13, .ref q14, .int 0, .int 0])), (q12, .inl (y 1, 400, .inl (fun _ => 0))), (q13, .inl (y 0, 400, .inl (fun _ => 0))), (q14, .inl (y 0, 400, .inl (fun _ => 0))), (q15, .inr (6, [.null, .null, .null, .null, .null, .null, .null, .null, .int 0]))] H := hP
  have hD : va_D A [(h, .inr (7, [.ref q1, .ref q9, .ref q11, .null, .null, .null])), (q1, .inr (1, [.ref q2, .ref q3, .ref q4, .ref q5, .ref q6, .ref q7, .ref q8, .int 0])), (q2, .inl (y 0, 240, .inl (fun _ => 0))), (q3, .inl (y 0, 240, .inl (fun _ => 0))), (q4, .inl (y 0, 240, .inl (fun _ => 0))), (q5, .inl (y 0, 240, .inl (fun _ => 0))), (q6, .inl (y 0, 240, .inl (fun _ => 0))), (q7, .inl (y 0, 240, .inl (fun _ => 0))), (q8, .inl (y 2, 960, .inr (.inl (fun _ => 0)))), (q9, .inr (5, [.ref q1, .ref q10, .int 0, .int 0, .int (-1)])), (q10, .inl (y 1, 400, .inl (fun _ => 0))), (q11, .inr (2, [.ref q1, .ref q12, .ref q13, .ref q14, .int 0, .int 0])), (q12, .inl (y 1, 400, .inl (fun _ => 0))), (q13, .inl (y 0, 400, .inl (fun _ => 0))), (q14, .inl (y 0, 400, .inl (fun _ => 0))), (q15, .inr (6, [.null, .null, .null, .null, .null, .null, .null, .null, .int 0]))] := hD
  refine lv_dup hx hb dX7_init_49 rfl ?_
  refine lv_aload_n hx hb dX7_init_50 rfl (lv_at hl 0 rfl) ?_
  refine va_get (D := D) (ci := 7) (v := .ref q1) (C := RX7) (T := TX7) (N := 6) hx hb h_w (fun _ h => h) hown hK hP 0 rfl rfl 0 (by decide) l_f10 (fun _ h9 => h9) rfl dX7_init_51 ?_
  have hPc := hP.sub (ws' := [(q15, .inr (6, [.null, .null, .null, .null, .null, .null, .null, .null, .int 0]))]) [15] rfl
  have hFc := va_free (wc := [(q15, .inr (6, [.null, .null, .null, .null, .null, .null, .null, .null, .int 0]))]) hD hS hA [15] rfl
  have hDc := hD.sub (ws' := [(q15, .inr (6, [.null, .null, .null, .null, .null, .null, .null, .null, .int 0]))]) [15] (by decide) rfl
  refine va_callv (va_runI (As := [.ref q1]) (rest := [.ref q15, .ref h]) ⟨hx, hb, hml, hown, hts⟩ (kX6_init l D y q15 q1 _) (cwI 1 hts (gAI aC_X6_init) rfl rfl rfl l_NX6 l_M34 l_IX6_init rfl eX6_init ⟨Nat.le_of_ble_eq_true rfl, Nat.le_of_ble_eq_true rfl⟩) ⟨preI_blind, fun U hU hW => ⟨rfl, by rw [hU], by rw [hU]; exact hPc, va_K.moved hW.alike hK, hDc.weaken (fun _ _ _ _ => trivial), hNX.warm hW⟩⟩ rfl rfl hl.1 rfl (lv_room (Nat.le_of_ble_eq_true rfl)) dX7_init_54 ⟨by show _ ≤ 36; omega, by show _ ≤ 5290; omega⟩) hS (fun q _ h => hFc q h) hFc (fun u T H1 locs ht hvm hw hB hz1 hk1 hS => ?_)
  obtain ⟨q16, q17, q18, q19, q20, q21, q22, hP1, hD1⟩ := hB
  rw [ht] at hP1
  obtain ⟨hP, hD⟩ := va_join (wr := [(h, .inr (7, [.ref q1, .ref q9, .ref q11, .null, .null, .null])), (q1, .inr (1, [.ref q2, .ref q3, .ref q4, .ref q5, .ref q6, .ref q7, .ref q8, .int 0])), (q2, .inl (y 0, 240, .inl (fun _ => 0))), (q3, .inl (y 0, 240, .inl (fun _ => 0))), (q4, .inl (y 0, 240, .inl (fun _ => 0))), (q5, .inl (y 0, 240, .inl (fun _ => 0))), (q6, .inl (y 0, 240, .inl (fun _ => 0))), (q7, .inl (y 0, 240, .inl (fun _ => 0))), (q8, .inl (y 2, 960, .inr (.inl (fun _ => 0)))), (q9, .inr (5, [.ref q1, .ref q10, .int 0, .int 0, .int (-1)])), (q10, .inl (y 1, 400, .inl (fun _ => 0))), (q11, .inr (2, [.ref q1, .ref q12, .ref q13, .ref q14, .int 0, .int 0])), (q12, .inl (y 1, 400, .inl (fun _ => 0))), (q13, .inl (y 0, 400, .inl (fun _ => 0))), (q14, .inl (y 0, 400, .inl (fun _ => 0)))]) (w1 := [(q15, .inr (6, [.ref q1, .ref q16, .ref q17, .ref q18, .ref q19, .ref q20, .ref q21, .ref q22, .int 0])), (q16, .inl (y 0, 16, .inl (fun _ => 0))), (q17, .inl (y 0, 16, .inl (fun _ => 0))), (q18, .inl (y 0, 16, .inl (fun _ => 0))), (q19, .inl (y 0, 16, .inl (fun _ => 0))), (q20, .inl (y 0, 16, .inl (fun _ => 0))), (q21, .inl (y 0, 16, .inl (fun _ => 0))), (q22, .inl (y 0, 240, .inl (fun _ => 0)))]) hP hD [15] [0, 1, 2, 3, 4, 5, 6, 7, 8, 9, 10, 11, 12, 13, 14] rfl rfl (by decide) (by decide) hk1 hFc hP1 hD1
  generalize H1 = H at hP hS ⊢
  refine W.widen (k := 22) (n := 4364) (by omega) (by omega) ?_
  have hP : va_P D vwCl [(h, .inr (7, [.ref q1, .ref q9, .ref q11, .null, .null, .null])), (q1, .inr (1, [.ref q2, .ref q3, .ref q4, .ref q5, .ref q6, .ref q7, .ref q8, .int 0])), (q2, .inl (y 0, 240, .inl (fun _ => 0))), (q3, .inl (y 0, 240, .inl (fun _ => 0))), (q4, .inl (y 0, 240, .inl (fun _ => 0))), (q5, .inl (y 0, 240, .inl (fun _ => 0))), (q6, .inl (y 0, 240, .inl (fun _ => 0))), (q7, .inl (y 0, 240, .inl (fun _ => 0))), (q8, .inl (y 2, 960, .inr (.inl (fun _ => 0)))), (q9, .inr (5, [.ref q1, .ref q10, .int 0, .int 0, .int (-1)])), (q10, .inl (y 1, 400, .inl (fun _ => 0))), (q11, .inr (2, [.ref q1, .ref q12, .ref q13, .ref q14, .int 0, .int 0])), (q12, .inl (y 1, 400, .inl (fun _ => 0))), (q13, .inl (y 0, 400, .inl (fun _ => 0))), (q14, .inl (y 0, 400, .inl (fun _ => 0))), (q15, .inr (6, [.ref q1, .ref q16, .ref q17, .ref q18, .ref q19, .ref q20, .ref q21, .ref q22, .int 0])), (q16, .inl (y 0, 16, .inl (fun _ => 0))), (q17, .inl (y 0, 16, .inl (fun _ => 0))), (q18, .inl (y 0, 16, .inl (fun _ => 0))), (q19, .inl (y 0, 16, .inl (fun _ => 0))), (q20, .inl (y 0, 16, .inl (fun _ => 0))), (q21, .inl (y 0, 16, .inl (fun _ => 0))), (q22, .inl (y 0, 240, .inl (fun _ => 0)))] H := hP
  have hD : va_D A [(h, .inr (7, [.ref q1, .ref q9, .ref q11, .null, .null, .null])), (q1, .inr (1, [.ref q2, .ref q3, .ref q4, .ref q5, .ref q6, .ref q7, .ref q8, .int 0])), (q2, .inl (y 0, 240, .inl (fun _ => 0))), (q3, .inl (y 0, 240, .inl (fun _ => 0))), (q4, .inl (y 0, 240, .inl (fun _ => 0))), (q5, .inl (y 0, 240, .inl (fun _ => 0))), (q6, .inl (y 0, 240, .inl (fun _ => 0))), (q7, .inl (y 0, 240, .inl (fun _ => 0))), (q8, .inl (y 2, 960, .inr (.inl (fun _ => 0)))), (q9, .inr (5, [.ref q1, .ref q10, .int 0, .int 0, .int (-1)])), (q10, .inl (y 1, 400, .inl (fun _ => 0))), (q11, .inr (2, [.ref q1, .ref q12, .ref q13, .ref q14, .int 0, .int 0])), (q12, .inl (y 1, 400, .inl (fun _ => 0))), (q13, .inl (y 0, 400, .inl (fun _ => 0))), (q14, .inl (y 0, 400, .inl (fun _ => 0))), (q15, .inr (6, [.ref q1, .ref q16, .ref q17, .ref q18, .ref q19, .ref q20, .ref q21, .ref q22, .int 0])), (q16, .inl (y 0, 16, .inl (fun _ => 0))), (q17, .inl (y 0, 16, .inl (fun _ => 0))), (q18, .inl (y 0, 16, .inl (fun _ => 0))), (q19, .inl (y 0, 16, .inl (fun _ => 0))), (q20, .inl (y 0, 16, .inl (fun _ => 0))), (q21, .inl (y 0, 16, .inl (fun _ => 0))), (q22, .inl (y 0, 240, .inl (fun _ => 0)))] := hD
  refine va_putF (D := D) (ci := 7) (v := .ref q15) (ty := .object "ProofDesk$Theorems") (C := RX7) (T := TX7) (N := 6) hx hb h_w (fun _ h => h) tyX7 tyX7_ok nmX7 hown hK hP hD hS 0 rfl rfl 3 (by decide) l_f35 (fun _ h9 => h9) rfl hin rfl (by decide +kernel) rfl rfl (Nat.le_of_ble_eq_true rfl) dX7_init_57 (fun H locs hP hD hS => ?_)
  have hP : va_P D vwCl [(h, .inr (7, [.ref q1, .ref q9, .ref q11, .ref q15, .null, .null])), (q1, .inr (1, [.ref q2, .ref q3, .ref q4, .ref q5, .ref q6, .ref q7, .ref q8, .int 0])), (q2, .inl (y 0, 240, .inl (fun _ => 0))), (q3, .inl (y 0, 240, .inl (fun _ => 0))), (q4, .inl (y 0, 240, .inl (fun _ => 0))), (q5, .inl (y 0, 240, .inl (fun _ => 0))), (q6, .inl (y 0, 240, .inl (fun _ => 0))), (q7, .inl (y 0, 240, .inl (fun _ => 0))), (q8, .inl (y 2, 960, .inr (.inl (fun _ => 0)))), (q9, .inr (5, [.ref q1, .ref q10, .int 0, .int 0, .int (-1)])), (q10, .inl (y 1, 400, .inl (fun _ => 0))), (q11, .inr (2, [.ref q1, .ref q12, .ref q13, .ref q14, .int 0, .int 0])), (q12, .inl (y 1, 400, .inl (fun _ => 0))), (q13, .inl (y 0, 400, .inl (fun _ => 0))), (q14, .inl (y 0, 400, .inl (fun _ => 0))), (q15, .inr (6, [.ref q1, .ref q16, .ref q17, .ref q18, .ref q19, .ref q20, .ref q21, .ref q22, .int 0])), (q16, .inl (y 0, 16, .inl (fun _ => 0))), (q17, .inl (y 0, 16, .inl (fun _ => 0))), (q18, .inl (y 0, 16, .inl (fun _ => 0))), (q19, .inl (y 0, 16, .inl (fun _ => 0))), (q20, .inl (y 0, 16, .inl (fun _ => 0))), (q21, .inl (y 0, 16, .inl (fun _ => 0))), (q22, .inl (y 0, 240, .inl (fun _ => 0)))] H := hP
  have hD : va_D A [(h, .inr (7, [.ref q1, .ref q9, .ref q11, .ref q15, .null, .null])), (q1, .inr (1, [.ref q2, .ref q3, .ref q4, .ref q5, .ref q6, .ref q7, .ref q8, .int 0])), (q2, .inl (y 0, 240, .inl (fun _ => 0))), (q3, .inl (y 0, 240, .inl (fun _ => 0))), (q4, .inl (y 0, 240, .inl (fun _ => 0))), (q5, .inl (y 0, 240, .inl (fun _ => 0))), (q6, .inl (y 0, 240, .inl (fun _ => 0))), (q7, .inl (y 0, 240, .inl (fun _ => 0))), (q8, .inl (y 2, 960, .inr (.inl (fun _ => 0)))), (q9, .inr (5, [.ref q1, .ref q10, .int 0, .int 0, .int (-1)])), (q10, .inl (y 1, 400, .inl (fun _ => 0))), (q11, .inr (2, [.ref q1, .ref q12, .ref q13, .ref q14, .int 0, .int 0])), (q12, .inl (y 1, 400, .inl (fun _ => 0))), (q13, .inl (y 0, 400, .inl (fun _ => 0))), (q14, .inl (y 0, 400, .inl (fun _ => 0))), (q15, .inr (6, [.ref q1, .ref q16, .ref q17, .ref q18, .ref q19, .ref q20, .ref q21, .ref q22, .int 0])), (q16, .inl (y 0, 16, .inl (fun _ => 0))), (q17, .inl (y 0, 16, .inl (fun _ => 0))), (q18, .inl (y 0, 16, .inl (fun _ => 0))), (q19, .inl (y 0, 16, .inl (fun _ => 0))), (q20, .inl (y 0, 16, .inl (fun _ => 0))), (q21, .inl (y 0, 16, .inl (fun _ => 0))), (q22, .inl (y 0, 240, .inl (fun _ => 0)))] := hD
  refine lv_aload_n hx hb dX7_init_60 rfl (lv_at hl 0 rfl) ?_
  refine va_new (ci := 3) (fs := [.null, .null, .null, .null, .null, .null, .null, .null, .null, .null, .int 0, .int 0]) (C := RX3) (T := TX3) (N := 12) hx hb h_wX3 (fun _ h => h) tyX3 tyX3_ok hown l_L39 l_XX3 l_NX3 hK hP hD hS hA rfl (fun j hj => by rcases (show j = 0 ∨ j = 1 ∨ j = 2 ∨ j = 3 ∨ j = 4 ∨ j = 5 ∨ j = 6 ∨ j = 7 ∨ j = 8 ∨ j = 9 ∨ j = 10 ∨ j = 11 by omega) with rfl | rfl | rfl | rfl | rfl | rfl | rfl | rfl | rfl | rfl | rfl | rfl <;> rfl) (by show _ ≤ 36; omega) (by show _ ≤ 5290; omega) dX7_init_61 (fun q23 H hP hD hS => ?_)
  refine W.widen (k := 23) (n := 4376) (by omega) (by omega) ?_
  have hP : va_P D vwCl [(h, .inr (7, [.ref q1, .ref q9, .ref q11, .ref q15, .null, .null])), (q1, .inr (1, [.ref q2, .ref q3, .ref q4, .ref q5, .ref q6, .ref q7, .ref q8, .int 0])), (q2, .inl (y 0, 240, .inl (fun _ => 0))), (q3, .inl (y 0, 240, .inl (fun _ => 0))), (q4, .inl (y 0, 240, .inl (fun _ => 0))), (q5, .inl (y 0, 240, .inl (fun _ => 0))), (q6, .inl (y 0, 240, .inl (fun _ => 0))), (q7, .inl (y 0, 240, .inl (fun _ => 0))), (q8, .inl (y 2, 960, .inr (.inl (fun _ => 0)))), (q9, .inr (5, [.ref q1, .ref q10, .int 0, .int 0, .int (-1)])), (q10, .inl (y 1, 400, .inl (fun _ => 0))), (q11, .inr (2, [.ref q1, .ref q12, .ref q13, .ref q14, .int 0, .int 0])), (q12, .inl (y 1, 400, .inl (fun _ => 0))), (q13, .inl (y 0, 400, .inl (fun _ => 0))), (q14, .inl (y 0, 400, .inl (fun _ => 0))), (q15, .inr (6, [.ref q1, .ref q16, .ref q17, .ref q18, .ref q19, .ref q20, .ref q21, .ref q22, .int 0])), (q16, .inl (y 0, 16, .inl (fun _ => 0))), (q17, .inl (y 0, 16, .inl (fun _ => 0))), (q18, .inl (y 0, 16, .inl (fun _ => 0))), (q19, .inl (y 0, 16, .inl (fun _ => 0))), (q20, .inl (y 0, 16, .inl (fun _ => 0))), (q21, .inl (y 0, 16, .inl (fun _ => 0))), (q22, .inl (y 0, 240, .inl (fun _ => 0))), (q23, .inr (3, [.null, .null, .null, .null, .null, .null, .null, .null, .null, .null, .int 0, .int 0]))] H := hP
  have hD : va_D A [(h, .inr (7, [.ref q1, .ref q9, .ref q11, .ref q15, .null, .null])), (q1, .inr (1, [.ref q2, .ref q3, .ref q4, .ref q5, .ref q6, .ref q7, .ref q8, .int 0])), (q2, .inl (y 0, 240, .inl (fun _ => 0))), (q3, .inl (y 0, 240, .inl (fun _ => 0))), (q4, .inl (y 0, 240, .inl (fun _ => 0))), (q5, .inl (y 0, 240, .inl (fun _ => 0))), (q6, .inl (y 0, 240, .inl (fun _ => 0))), (q7, .inl (y 0, 240, .inl (fun _ => 0))), (q8, .inl (y 2, 960, .inr (.inl (fun _ => 0)))), (q9, .inr (5, [.ref q1, .ref q10, .int 0, .int 0, .int (-1)])), (q10, .inl (y 1, 400, .inl (fun _ => 0))), (q11, .inr (2, [.ref q1, .ref q12, .ref q13, .ref q14, .int 0, .int 0])), (q12, .inl (y 1, 400, .inl (fun _ => 0))), (q13, .inl (y 0, 400, .inl (fun _ => 0))), (q14, .inl (y 0, 400, .inl (fun _ => 0))), (q15, .inr (6, [.ref q1, .ref q16, .ref q17, .ref q18, .ref q19, .ref q20, .ref q21, .ref q22, .int 0])), (q16, .inl (y 0, 16, .inl (fun _ => 0))), (q17, .inl (y 0, 16, .inl (fun _ => 0))), (q18, .inl (y 0, 16, .inl (fun _ => 0))), (q19, .inl (y 0, 16, .inl (fun _ => 0))), (q20, .inl (y 0, 16, .inl (fun _ => 0))), (q21, .inl (y 0, 16, .inl (fun _ => 0))), (q22, .inl (y 0, 240, .inl (fun _ => 0))), (q23, .inr (3, [.null, .null, .null, .null, .null, .null, .null, .null, .null, .null, .int 0, .int 0]))] := hD
  refine lv_dup hx hb dX7_init_64 rfl ?_
  refine lv_aload_n hx hb dX7_init_65 rfl (lv_at hl 0 rfl) ?_
  refine va_get (D := D) (ci := 7) (v := .ref q1) (C := RX7) (T := TX7) (N := 6) hx hb h_w (fun _ h => h) hown hK hP 0 rfl rfl 0 (by decide) l_f10 (fun _ h9 => h9) rfl dX7_init_66 ?_
  refine lv_aload_n hx hb dX7_init_69 rfl (lv_at hl 0 rfl) ?_
  refine va_get (D := D) (ci := 7) (v := .ref q15) (C := RX7) (T := TX7) (N := 6) hx hb h_w (fun _ h => h) hown hK hP 0 rfl rfl 3 (by decide) l_f35 (fun _ h9 => h9) rfl dX7_init_70 ?_
  have hPc := hP.sub (ws' := [(q23, .inr (3, [.null, .null, .null, .null, .null, .null, .null, .null, .null, .null, .int 0, .int 0]))]) [23] rfl
  have hFc := va_free (wc := [(q23, .inr (3, [.null, .null, .null, .null, .null, .null, .null, .null, .null, .null, .int 0, .int 0]))]) hD hS hA [23] rfl
  have hDc := hD.sub (ws' := [(q23, .inr (3, [.null, .null, .null, .null, .null, .null, .null, .null, .null, .null, .int 0, .int 0]))]) [23] (by decide) rfl
  refine va_callv (va_runI (As := [.ref q1, .ref q15]) (rest := [.ref q23, .ref h]) ⟨hx, hb, hml, hown, hts⟩ (kX3_init l D y q23 q1 q15 _) (cwI 2 hts (gAI aC_X3_init) rfl rfl rfl l_NX3 l_M41 l_IX3_init rfl eX3_init ⟨Nat.le_of_ble_eq_true rfl, Nat.le_of_ble_eq_true rfl⟩) ⟨preI_blind, fun U hU hW => ⟨rfl, by rw [hU], by rw [hU]; exact hPc, va_K.moved hW.alike hK, hDc.weaken (fun _ _ _ _ => trivial), hNX.warm hW⟩⟩ rfl rfl hl.1 rfl (lv_room (Nat.le_of_ble_eq_true rfl)) dX7_init_73 ⟨by show _ ≤ 36; omega, by show _ ≤ 5290; omega⟩) hS (fun q _ h => hFc q h) hFc (fun u T H1 locs ht hvm hw hB hz1 hk1 hS => ?_)
  obtain ⟨q24, q25, q26, q27, q28, q29, q30, q31, q32, q33, q34, hP1, hD1⟩ := hB
  rw [ht] at hP1
  obtain ⟨hP, hD⟩ := va_join (wr := [(h, .inr (7, [.ref q1, .ref q9, .ref q11, .ref q15, .null, .null])), (q1, .inr (1, [.ref q2, .ref q3, .ref q4, .ref q5, .ref q6, .ref q7, .ref q8, .int 0])), (q2, .inl (y 0, 240, .inl (fun _ => 0))), (q3, .inl (y 0, 240, .inl (fun _ => 0))), (q4, .inl (y 0, 240, .inl (fun _ => 0))), (q5, .inl (y 0, 240, .inl (fun _ => 0))), (q6, .inl (y 0, 240, .inl (fun _ => 0))), (q7, .inl (y 0, 240, .inl (fun _ => 0))), (q8, .inl (y 2, 960, .inr (.inl (fun _ => 0)))), (q9, .inr (5, [.ref q1, .ref q10, .int 0, .int 0, .int (-1)])), (q10, .inl (y 1, 400, .inl (fun _ => 0))), (q11, .inr (2, [.ref q1, .ref q12, .ref q13, .ref q14, .int 0, .int 0])), (q12, .inl (y 1, 400, .inl (fun _ => 0))), (q13, .inl (y 0, 400, .inl (fun _ => 0))), (q14, .inl (y 0, 400, .inl (fun _ => 0))), (q15, .inr (6, [.ref q1, .ref q16, .ref q17, .ref q18, .ref q19, .ref q20, .ref q21, .ref q22, .int 0])), (q16, .inl (y 0, 16, .inl (fun _ => 0))), (q17, .inl (y 0, 16, .inl (fun _ => 0))), (q18, .inl (y 0, 16, .inl (fun _ => 0))), (q19, .inl (y 0, 16, .inl (fun _ => 0))), (q20, .inl (y 0, 16, .inl (fun _ => 0))), (q21, .inl (y 0, 16, .inl (fun _ => 0))), (q22, .inl (y 0, 240, .inl (fun _ => 0)))]) (w1 := [(q23, .inr (3, [.ref q1, .ref q15, .ref q24, .ref q28, .ref q29, .ref q30, .ref q31, .ref q32, .ref q33, .ref q34, .int 0, .int 0])), (q24, .inr (0, [.ref q25, .ref q26, .ref q27, .int 0, .int 0, .int (-1)])), (q25, .inl (y 0, 60, .inl (fun _ => 0))), (q26, .inl (y 0, 60, .inl (fun _ => 0))), (q27, .inl (y 0, 60, .inl (fun _ => 0))), (q28, .inl (y 0, 60, .inl (fun _ => 0))), (q29, .inl (y 0, 60, .inl (fun _ => 0))), (q30, .inl (y 0, 180, .inl (fun _ => 0))), (q31, .inl (y 0, 180, .inl (fun _ => 0))), (q32, .inl (y 0, 60, .inl (fun _ => 0))), (q33, .inl (y 3, 60, .inl (fun _ => 0))), (q34, .inl (y 0, 120, .inl (fun _ => 0)))]) hP hD [23] [0, 1, 2, 3, 4, 5, 6, 7, 8, 9, 10, 11, 12, 13, 14, 15, 16, 17, 18, 19, 20, 21, 22] rfl rfl (by decide) (by decide) hk1 hFc hP1 hD1
  generalize H1 = H at hP hS ⊢
  refine W.widen (k := 34) (n := 5282) (by omega) (by omega) ?_
  have hP : va_P D vwCl [(h, .inr (7, [.ref q1, .ref q9, .ref q11, .ref q15, .null, .null])), (q1, .inr (1, [.ref q2, .ref q3, .ref q4, .ref q5, .ref q6, .ref q7, .ref q8, .int 0])), (q2, .inl (y 0, 240, .inl (fun _ => 0))), (q3, .inl (y 0, 240, .inl (fun _ => 0))), (q4, .inl (y 0, 240, .inl (fun _ => 0))), (q5, .inl (y 0, 240, .inl (fun _ => 0))), (q6, .inl (y 0, 240, .inl (fun _ => 0))), (q7, .inl (y 0, 240, .inl (fun _ => 0))), (q8, .inl (y 2, 960, .inr (.inl (fun _ => 0)))), (q9, .inr (5, [.ref q1, .ref q10, .int 0, .int 0, .int (-1)])), (q10, .inl (y 1, 400, .inl (fun _ => 0))), (q11, .inr (2, [.ref q1, .ref q12, .ref q13, .ref q14, .int 0, .int 0])), (q12, .inl (y 1, 400, .inl (fun _ => 0))), (q13, .inl (y 0, 400, .inl (fun _ => 0))), (q14, .inl (y 0, 400, .inl (fun _ => 0))), (q15, .inr (6, [.ref q1, .ref q16, .ref q17, .ref q18, .ref q19, .ref q20, .ref q21, .ref q22, .int 0])), (q16, .inl (y 0, 16, .inl (fun _ => 0))), (q17, .inl (y 0, 16, .inl (fun _ => 0))), (q18, .inl (y 0, 16, .inl (fun _ => 0))), (q19, .inl (y 0, 16, .inl (fun _ => 0))), (q20, .inl (y 0, 16, .inl (fun _ => 0))), (q21, .inl (y 0, 16, .inl (fun _ => 0))), (q22, .inl (y 0, 240, .inl (fun _ => 0))), (q23, .inr (3, [.ref q1, .ref q15, .ref q24, .ref q28, .ref q29, .ref q30, .ref q31, .ref q32, .ref q33, .ref q34, .int 0, .int 0])), (q24, .inr (0, [.ref q25, .ref q26, .ref q27, .int 0, .int 0, .int (-1)])), (q25, .inl (y 0, 60, .inl (fun _ => 0))), (q26, .inl (y 0, 60, .inl (fun _ => 0))), (q27, .inl (y 0, 60, .inl (fun _ => 0))), (q28, .inl (y 0, 60, .inl (fun _ => 0))), (q29, .inl (y 0, 60, .inl (fun _ => 0))), (q30, .inl (y 0, 180, .inl (fun _ => 0))), (q31, .inl (y 0, 180, .inl (fun _ => 0))), (q32, .inl (y 0, 60, .inl (fun _ => 0))), (q33, .inl (y 3, 60, .inl (fun _ => 0))), (q34, .inl (y 0, 120, .inl (fun _ => 0)))] H := hP
  have hD : va_D A [(h, .inr (7, [.ref q1, .ref q9, .ref q11, .ref q15, .null, .null])), (q1, .inr (1, [.ref q2, .ref q3, .ref q4, .ref q5, .ref q6, .ref q7, .ref q8, .int 0])), (q2, .inl (y 0, 240, .inl (fun _ => 0))), (q3, .inl (y 0, 240, .inl (fun _ => 0))), (q4, .inl (y 0, 240, .inl (fun _ => 0))), (q5, .inl (y 0, 240, .inl (fun _ => 0))), (q6, .inl (y 0, 240, .inl (fun _ => 0))), (q7, .inl (y 0, 240, .inl (fun _ => 0))), (q8, .inl (y 2, 960, .inr (.inl (fun _ => 0)))), (q9, .inr (5, [.ref q1, .ref q10, .int 0, .int 0, .int (-1)])), (q10, .inl (y 1, 400, .inl (fun _ => 0))), (q11, .inr (2, [.ref q1, .ref q12, .ref q13, .ref q14, .int 0, .int 0])), (q12, .inl (y 1, 400, .inl (fun _ => 0))), (q13, .inl (y 0, 400, .inl (fun _ => 0))), (q14, .inl (y 0, 400, .inl (fun _ => 0))), (q15, .inr (6, [.ref q1, .ref q16, .ref q17, .ref q18, .ref q19, .ref q20, .ref q21, .ref q22, .int 0])), (q16, .inl (y 0, 16, .inl (fun _ => 0))), (q17, .inl (y 0, 16, .inl (fun _ => 0))), (q18, .inl (y 0, 16, .inl (fun _ => 0))), (q19, .inl (y 0, 16, .inl (fun _ => 0))), (q20, .inl (y 0, 16, .inl (fun _ => 0))), (q21, .inl (y 0, 16, .inl (fun _ => 0))), (q22, .inl (y 0, 240, .inl (fun _ => 0))), (q23, .inr (3, [.ref q1, .ref q15, .ref q24, .ref q28, .ref q29, .ref q30, .ref q31, .ref q32, .ref q33, .ref q34, .int 0, .int 0])), (q24, .inr (0, [.ref q25, .ref q26, .ref q27, .int 0, .int 0, .int (-1)])), (q25, .inl (y 0, 60, .inl (fun _ => 0))), (q26, .inl (y 0, 60, .inl (fun _ => 0))), (q27, .inl (y 0, 60, .inl (fun _ => 0))), (q28, .inl (y 0, 60, .inl (fun _ => 0))), (q29, .inl (y 0, 60, .inl (fun _ => 0))), (q30, .inl (y 0, 180, .inl (fun _ => 0))), (q31, .inl (y 0, 180, .inl (fun _ => 0))), (q32, .inl (y 0, 60, .inl (fun _ => 0))), (q33, .inl (y 3, 60, .inl (fun _ => 0))), (q34, .inl (y 0, 120, .inl (fun _ => 0)))] := hD
  refine va_putF (D := D) (ci := 7) (v := .ref q23) (ty := .object "ProofDesk$Proof") (C := RX7) (T := TX7) (N := 6) hx hb h_w (fun _ h => h) tyX7 tyX7_ok nmX7 hown hK hP hD hS 0 rfl rfl 4 (by decide) l_f44 (fun _ h9 => h9) rfl hin rfl (by decide +kernel) rfl rfl (Nat.le_of_ble_eq_true rfl) dX7_init_76 (fun H locs hP hD hS => ?_)
  have hP : va_P D vwCl [(h, .inr (7, [.ref q1, .ref q9, .ref q11, .ref q15, .ref q23, .null])), (q1, .inr (1, [.ref q2, .ref q3, .ref q4, .ref q5, .ref q6, .ref q7, .ref q8, .int 0])), (q2, .inl (y 0, 240, .inl (fun _ => 0))), (q3, .inl (y 0, 240, .inl (fun _ => 0))), (q4, .inl (y 0, 240, .inl (fun _ => 0))), (q5, .inl (y 0, 240, .inl (fun _ => 0))), (q6, .inl (y 0, 240, .inl (fun _ => 0))), (q7, .inl (y 0, 240, .inl (fun _ => 0))), (q8, .inl (y 2, 960, .inr (.inl (fun _ => 0)))), (q9, .inr (5, [.ref q1, .ref q10, .int 0, .int 0, .int (-1)])), (q10, .inl (y 1, 400, .inl (fun _ => 0))), (q11, .inr (2, [.ref q1, .ref q12, .ref q13, .ref q14, .int 0, .int 0])), (q12, .inl (y 1, 400, .inl (fun _ => 0))), (q13, .inl (y 0, 400, .inl (fun _ => 0))), (q14, .inl (y 0, 400, .inl (fun _ => 0))), (q15, .inr (6, [.ref q1, .ref q16, .ref q17, .ref q18, .ref q19, .ref q20, .ref q21, .ref q22, .int 0])), (q16, .inl (y 0, 16, .inl (fun _ => 0))), (q17, .inl (y 0, 16, .inl (fun _ => 0))), (q18, .inl (y 0, 16, .inl (fun _ => 0))), (q19, .inl (y 0, 16, .inl (fun _ => 0))), (q20, .inl (y 0, 16, .inl (fun _ => 0))), (q21, .inl (y 0, 16, .inl (fun _ => 0))), (q22, .inl (y 0, 240, .inl (fun _ => 0))), (q23, .inr (3, [.ref q1, .ref q15, .ref q24, .ref q28, .ref q29, .ref q30, .ref q31, .ref q32, .ref q33, .ref q34, .int 0, .int 0])), (q24, .inr (0, [.ref q25, .ref q26, .ref q27, .int 0, .int 0, .int (-1)])), (q25, .inl (y 0, 60, .inl (fun _ => 0))), (q26, .inl (y 0, 60, .inl (fun _ => 0))), (q27, .inl (y 0, 60, .inl (fun _ => 0))), (q28, .inl (y 0, 60, .inl (fun _ => 0))), (q29, .inl (y 0, 60, .inl (fun _ => 0))), (q30, .inl (y 0, 180, .inl (fun _ => 0))), (q31, .inl (y 0, 180, .inl (fun _ => 0))), (q32, .inl (y 0, 60, .inl (fun _ => 0))), (q33, .inl (y 3, 60, .inl (fun _ => 0))), (q34, .inl (y 0, 120, .inl (fun _ => 0)))] H := hP
  have hD : va_D A [(h, .inr (7, [.ref q1, .ref q9, .ref q11, .ref q15, .ref q23, .null])), (q1, .inr (1, [.ref q2, .ref q3, .ref q4, .ref q5, .ref q6, .ref q7, .ref q8, .int 0])), (q2, .inl (y 0, 240, .inl (fun _ => 0))), (q3, .inl (y 0, 240, .inl (fun _ => 0))), (q4, .inl (y 0, 240, .inl (fun _ => 0))), (q5, .inl (y 0, 240, .inl (fun _ => 0))), (q6, .inl (y 0, 240, .inl (fun _ => 0))), (q7, .inl (y 0, 240, .inl (fun _ => 0))), (q8, .inl (y 2, 960, .inr (.inl (fun _ => 0)))), (q9, .inr (5, [.ref q1, .ref q10, .int 0, .int 0, .int (-1)])), (q10, .inl (y 1, 400, .inl (fun _ => 0))), (q11, .inr (2, [.ref q1, .ref q12, .ref q13, .ref q14, .int 0, .int 0])), (q12, .inl (y 1, 400, .inl (fun _ => 0))), (q13, .inl (y 0, 400, .inl (fun _ => 0))), (q14, .inl (y 0, 400, .inl (fun _ => 0))), (q15, .inr (6, [.ref q1, .ref q16, .ref q17, .ref q18, .ref q19, .ref q20, .ref q21, .ref q22, .int 0])), (q16, .inl (y 0, 16, .inl (fun _ => 0))), (q17, .inl (y 0, 16, .inl (fun _ => 0))), (q18, .inl (y 0, 16, .inl (fun _ => 0))), (q19, .inl (y 0, 16, .inl (fun _ => 0))), (q20, .inl (y 0, 16, .inl (fun _ => 0))), (q21, .inl (y 0, 16, .inl (fun _ => 0))), (q22, .inl (y 0, 240, .inl (fun _ => 0))), (q23, .inr (3, [.ref q1, .ref q15, .ref q24, .ref q28, .ref q29, .ref q30, .ref q31, .ref q32, .ref q33, .ref q34, .int 0, .int 0])), (q24, .inr (0, [.ref q25, .ref q26, .ref q27, .int 0, .int 0, .int (-1)])), (q25, .inl (y 0, 60, .inl (fun _ => 0))), (q26, .inl (y 0, 60, .inl (fun _ => 0))), (q27, .inl (y 0, 60, .inl (fun _ => 0))), (q28, .inl (y 0, 60, .inl (fun _ => 0))), (q29, .inl (y 0, 60, .inl (fun _ => 0))), (q30, .inl (y 0, 180, .inl (fun _ => 0))), (q31, .inl (y 0, 180, .inl (fun _ => 0))), (q32, .inl (y 0, 60, .inl (fun _ => 0))), (q33, .inl (y 3, 60, .inl (fun _ => 0))), (q34, .inl (y 0, 120, .inl (fun _ => 0)))] := hD
  refine lv_aload_n hx hb dX7_init_79 rfl (lv_at hl 0 rfl) ?_
  refine va_new (ci := 4) (fs := [.null, .null, .null, .null]) (C := RX4) (T := TX4) (N := 4) hx hb h_wX4 (fun _ h => h) tyX4 tyX4_ok hown l_L48 l_XX4 l_NX4 hK hP hD hS hA rfl (fun j hj => by rcases (show j = 0 ∨ j = 1 ∨ j = 2 ∨ j = 3 by omega) with rfl | rfl | rfl | rfl <;> rfl) (by show _ ≤ 36; omega) (by show _ ≤ 5290; omega) dX7_init_80 (fun q35 H hP hD hS => ?_)
  refine W.widen (k := 35) (n := 5286) (by omega) (by omega) ?_
  have hP : va_P D vwCl [(h, .inr (7, [.ref q1, .ref q9, .ref q11, .ref q15, .ref q23, .null])), (q1, .inr (1, [.ref q2, .ref q3, .ref q4, .ref q5, .ref q6, .ref q7, .ref q8, .int 0])), (q2, .inl (y 0, 240, .inl (fun _ => 0))), (q3, .inl (y 0, 240, .inl (fun _ => 0))), (q4, .inl (y 0, 240, .inl (fun _ => 0))), (q5, .inl (y 0, 240, .inl (fun _ => 0))), (q6, .inl (y 0, 240, .inl (fun _ => 0))), (q7, .inl (y 0, 240, .inl (fun _ => 0))), (q8, .inl (y 2, 960, .inr (.inl (fun _ => 0)))), (q9, .inr (5, [.ref q1, .ref q10, .int 0, .int 0, .int (-1)])), (q10, .inl (y 1, 400, .inl (fun _ => 0))), (q11, .inr (2, [.ref q1, .ref q12, .ref q13, .ref q14, .int 0, .int 0])), (q12, .inl (y 1, 400, .inl (fun _ => 0))), (q13, .inl (y 0, 400, .inl (fun _ => 0))), (q14, .inl (y 0, 400, .inl (fun _ => 0))), (q15, .inr (6, [.ref q1, .ref q16, .ref q17, .ref q18, .ref q19, .ref q20, .ref q21, .ref q22, .int 0])), (q16, .inl (y 0, 16, .inl (fun _ => 0))), (q17, .inl (y 0, 16, .inl (fun _ => 0))), (q18, .inl (y 0, 16, .inl (fun _ => 0))), (q19, .inl (y 0, 16, .inl (fun _ => 0))), (q20, .inl (y 0, 16, .inl (fun _ => 0))), (q21, .inl (y 0, 16, .inl (fun _ => 0))), (q22, .inl (y 0, 240, .inl (fun _ => 0))), (q23, .inr (3, [.ref q1, .ref q15, .ref q24, .ref q28, .ref q29, .ref q30, .ref q31, .ref q32, .ref q33, .ref q34, .int 0, .int 0])), (q24, .inr (0, [.ref q25, .ref q26, .ref q27, .int 0, .int 0, .int (-1)])), (q25, .inl (y 0, 60, .inl (fun _ => 0))), (q26, .inl (y 0, 60, .inl (fun _ => 0))), (q27, .inl (y 0, 60, .inl (fun _ => 0))), (q28, .inl (y 0, 60, .inl (fun _ => 0))), (q29, .inl (y 0, 60, .inl (fun _ => 0))), (q30, .inl (y 0, 180, .inl (fun _ => 0))), (q31, .inl (y 0, 180, .inl (fun _ => 0))), (q32, .inl (y 0, 60, .inl (fun _ => 0))), (q33, .inl (y 3, 60, .inl (fun _ => 0))), (q34, .inl (y 0, 120, .inl (fun _ => 0))), (q35, .inr (4, [.null, .null, .null, .null]))] H := hP
  have hD : va_D A [(h, .inr (7, [.ref q1, .ref q9, .ref q11, .ref q15, .ref q23, .null])), (q1, .inr (1, [.ref q2, .ref q3, .ref q4, .ref q5, .ref q6, .ref q7, .ref q8, .int 0])), (q2, .inl (y 0, 240, .inl (fun _ => 0))), (q3, .inl (y 0, 240, .inl (fun _ => 0))), (q4, .inl (y 0, 240, .inl (fun _ => 0))), (q5, .inl (y 0, 240, .inl (fun _ => 0))), (q6, .inl (y 0, 240, .inl (fun _ => 0))), (q7, .inl (y 0, 240, .inl (fun _ => 0))), (q8, .inl (y 2, 960, .inr (.inl (fun _ => 0)))), (q9, .inr (5, [.ref q1, .ref q10, .int 0, .int 0, .int (-1)])), (q10, .inl (y 1, 400, .inl (fun _ => 0))), (q11, .inr (2, [.ref q1, .ref q12, .ref q13, .ref q14, .int 0, .int 0])), (q12, .inl (y 1, 400, .inl (fun _ => 0))), (q13, .inl (y 0, 400, .inl (fun _ => 0))), (q14, .inl (y 0, 400, .inl (fun _ => 0))), (q15, .inr (6, [.ref q1, .ref q16, .ref q17, .ref q18, .ref q19, .ref q20, .ref q21, .ref q22, .int 0])), (q16, .inl (y 0, 16, .inl (fun _ => 0))), (q17, .inl (y 0, 16, .inl (fun _ => 0))), (q18, .inl (y 0, 16, .inl (fun _ => 0))), (q19, .inl (y 0, 16, .inl (fun _ => 0))), (q20, .inl (y 0, 16, .inl (fun _ => 0))), (q21, .inl (y 0, 16, .inl (fun _ => 0))), (q22, .inl (y 0, 240, .inl (fun _ => 0))), (q23, .inr (3, [.ref q1, .ref q15, .ref q24, .ref q28, .ref q29, .ref q30, .ref q31, .ref q32, .ref q33, .ref q34, .int 0, .int 0])), (q24, .inr (0, [.ref q25, .ref q26, .ref q27, .int 0, .int 0, .int (-1)])), (q25, .inl (y 0, 60, .inl (fun _ => 0))), (q26, .inl (y 0, 60, .inl (fun _ => 0))), (q27, .inl (y 0, 60, .inl (fun _ => 0))), (q28, .inl (y 0, 60, .inl (fun _ => 0))), (q29, .inl (y 0, 60, .inl (fun _ => 0))), (q30, .inl (y 0, 180, .inl (fun _ => 0))), (q31, .inl (y 0, 180, .inl (fun _ => 0))), (q32, .inl (y 0, 60, .inl (fun _ => 0))), (q33, .inl (y 3, 60, .inl (fun _ => 0))), (q34, .inl (y 0, 120, .inl (fun _ => 0))), (q35, .inr (4, [.null, .null, .null, .null]))] := hD
  refine lv_dup hx hb dX7_init_83 rfl ?_
  refine lv_aload_n hx hb dX7_init_84 rfl (lv_at hl 0 rfl) ?_
  refine va_get (D := D) (ci := 7) (v := .ref q1) (C := RX7) (T := TX7) (N := 6) hx hb h_w (fun _ h => h) hown hK hP 0 rfl rfl 0 (by decide) l_f10 (fun _ h9 => h9) rfl dX7_init_85 ?_
  refine lv_aload_n hx hb dX7_init_88 rfl (lv_at hl 0 rfl) ?_
  refine va_get (D := D) (ci := 7) (v := .ref q15) (C := RX7) (T := TX7) (N := 6) hx hb h_w (fun _ h => h) hown hK hP 0 rfl rfl 3 (by decide) l_f35 (fun _ h9 => h9) rfl dX7_init_89 ?_
  refine lv_aload_n hx hb dX7_init_92 rfl (lv_at hl 0 rfl) ?_
  refine va_get (D := D) (ci := 7) (v := .ref q23) (C := RX7) (T := TX7) (N := 6) hx hb h_w (fun _ h => h) hown hK hP 0 rfl rfl 4 (by decide) l_f44 (fun _ h9 => h9) rfl dX7_init_93 ?_
  have hPc := hP.sub (ws' := [(q35, .inr (4, [.null, .null, .null, .null]))]) [35] rfl
  have hFc := va_free (wc := [(q35, .inr (4, [.null, .null, .null, .null]))]) hD hS hA [35] rfl
  have hDc := hD.sub (ws' := [(q35, .inr (4, [.null, .null, .null, .null]))]) [35] (by decide) rfl
  refine va_callv (va_runI (As := [.ref q1, .ref q15, .ref q23]) (rest := [.ref q35, .ref h]) ⟨hx, hb, hml, hown, hts⟩ (kX4_init l D y q35 q1 q15 q23 _) (cwI 3 hts (gAI aC_X4_init) rfl rfl rfl l_NX4 l_M50 l_IX4_init rfl eX4_init ⟨Nat.le_of_ble_eq_true rfl, Nat.le_of_ble_eq_true rfl⟩) ⟨preI_blind, fun U hU hW => ⟨rfl, by rw [hU], by rw [hU]; exact hPc, va_K.moved hW.alike hK, hDc.weaken (fun _ _ _ _ => trivial), hNX.warm hW⟩⟩ rfl rfl hl.1 rfl (lv_room (Nat.le_of_ble_eq_true rfl)) dX7_init_96 ⟨by show _ ≤ 36; omega, by show _ ≤ 5290; omega⟩) hS (fun q _ h => hFc q h) hFc (fun u T H1 locs ht hvm hw hB hz1 hk1 hS => ?_)
  obtain ⟨q36, hP1, hD1⟩ := hB
  rw [ht] at hP1
  obtain ⟨hP, hD⟩ := va_join (wr := [(h, .inr (7, [.ref q1, .ref q9, .ref q11, .ref q15, .ref q23, .null])), (q1, .inr (1, [.ref q2, .ref q3, .ref q4, .ref q5, .ref q6, .ref q7, .ref q8, .int 0])), (q2, .inl (y 0, 240, .inl (fun _ => 0))), (q3, .inl (y 0, 240, .inl (fun _ => 0))), (q4, .inl (y 0, 240, .inl (fun _ => 0))), (q5, .inl (y 0, 240, .inl (fun _ => 0))), (q6, .inl (y 0, 240, .inl (fun _ => 0))), (q7, .inl (y 0, 240, .inl (fun _ => 0))), (q8, .inl (y 2, 960, .inr (.inl (fun _ => 0)))), (q9, .inr (5, [.ref q1, .ref q10, .int 0, .int 0, .int (-1)])), (q10, .inl (y 1, 400, .inl (fun _ => 0))), (q11, .inr (2, [.ref q1, .ref q12, .ref q13, .ref q14, .int 0, .int 0])), (q12, .inl (y 1, 400, .inl (fun _ => 0))), (q13, .inl (y 0, 400, .inl (fun _ => 0))), (q14, .inl (y 0, 400, .inl (fun _ => 0))), (q15, .inr (6, [.ref q1, .ref q16, .ref q17, .ref q18, .ref q19, .ref q20, .ref q21, .ref q22, .int 0])), (q16, .inl (y 0, 16, .inl (fun _ => 0))), (q17, .inl (y 0, 16, .inl (fun _ => 0))), (q18, .inl (y 0, 16, .inl (fun _ => 0))), (q19, .inl (y 0, 16, .inl (fun _ => 0))), (q20, .inl (y 0, 16, .inl (fun _ => 0))), (q21, .inl (y 0, 16, .inl (fun _ => 0))), (q22, .inl (y 0, 240, .inl (fun _ => 0))), (q23, .inr (3, [.ref q1, .ref q15, .ref q24, .ref q28, .ref q29, .ref q30, .ref q31, .ref q32, .ref q33, .ref q34, .int 0, .int 0])), (q24, .inr (0, [.ref q25, .ref q26, .ref q27, .int 0, .int 0, .int (-1)])), (q25, .inl (y 0, 60, .inl (fun _ => 0))), (q26, .inl (y 0, 60, .inl (fun _ => 0))), (q27, .inl (y 0, 60, .inl (fun _ => 0))), (q28, .inl (y 0, 60, .inl (fun _ => 0))), (q29, .inl (y 0, 60, .inl (fun _ => 0))), (q30, .inl (y 0, 180, .inl (fun _ => 0))), (q31, .inl (y 0, 180, .inl (fun _ => 0))), (q32, .inl (y 0, 60, .inl (fun _ => 0))), (q33, .inl (y 3, 60, .inl (fun _ => 0))), (q34, .inl (y 0, 120, .inl (fun _ => 0)))]) (w1 := [(q35, .inr (4, [.ref q1, .ref q15, .ref q23, .ref q36])), (q36, .inl (y 0, 4, .inl (fun _ => 0)))]) hP hD [35] [0, 1, 2, 3, 4, 5, 6, 7, 8, 9, 10, 11, 12, 13, 14, 15, 16, 17, 18, 19, 20, 21, 22, 23, 24, 25, 26, 27, 28, 29, 30, 31, 32, 33, 34] rfl rfl (by decide) (by decide) hk1 hFc hP1 hD1
  generalize H1 = H at hP hS ⊢
  refine W.widen (k := 36) (n := 5290) (by omega) (by omega) ?_
  have hP : va_P D vwCl [(h, .inr (7, [.ref q1, .ref q9, .ref q11, .ref q15, .ref q23, .null])), (q1, .inr (1, [.ref q2, .ref q3, .ref q4, .ref q5, .ref q6, .ref q7, .ref q8, .int 0])), (q2, .inl (y 0, 240, .inl (fun _ => 0))), (q3, .inl (y 0, 240, .inl (fun _ => 0))), (q4, .inl (y 0, 240, .inl (fun _ => 0))), (q5, .inl (y 0, 240, .inl (fun _ => 0))), (q6, .inl (y 0, 240, .inl (fun _ => 0))), (q7, .inl (y 0, 240, .inl (fun _ => 0))), (q8, .inl (y 2, 960, .inr (.inl (fun _ => 0)))), (q9, .inr (5, [.ref q1, .ref q10, .int 0, .int 0, .int (-1)])), (q10, .inl (y 1, 400, .inl (fun _ => 0))), (q11, .inr (2, [.ref q1, .ref q12, .ref q13, .ref q14, .int 0, .int 0])), (q12, .inl (y 1, 400, .inl (fun _ => 0))), (q13, .inl (y 0, 400, .inl (fun _ => 0))), (q14, .inl (y 0, 400, .inl (fun _ => 0))), (q15, .inr (6, [.ref q1, .ref q16, .ref q17, .ref q18, .ref q19, .ref q20, .ref q21, .ref q22, .int 0])), (q16, .inl (y 0, 16, .inl (fun _ => 0))), (q17, .inl (y 0, 16, .inl (fun _ => 0))), (q18, .inl (y 0, 16, .inl (fun _ => 0))), (q19, .inl (y 0, 16, .inl (fun _ => 0))), (q20, .inl (y 0, 16, .inl (fun _ => 0))), (q21, .inl (y 0, 16, .inl (fun _ => 0))), (q22, .inl (y 0, 240, .inl (fun _ => 0))), (q23, .inr (3, [.ref q1, .ref q15, .ref q24, .ref q28, .ref q29, .ref q30, .ref q31, .ref q32, .ref q33, .ref q34, .int 0, .int 0])), (q24, .inr (0, [.ref q25, .ref q26, .ref q27, .int 0, .int 0, .int (-1)])), (q25, .inl (y 0, 60, .inl (fun _ => 0))), (q26, .inl (y 0, 60, .inl (fun _ => 0))), (q27, .inl (y 0, 60, .inl (fun _ => 0))), (q28, .inl (y 0, 60, .inl (fun _ => 0))), (q29, .inl (y 0, 60, .inl (fun _ => 0))), (q30, .inl (y 0, 180, .inl (fun _ => 0))), (q31, .inl (y 0, 180, .inl (fun _ => 0))), (q32, .inl (y 0, 60, .inl (fun _ => 0))), (q33, .inl (y 3, 60, .inl (fun _ => 0))), (q34, .inl (y 0, 120, .inl (fun _ => 0))), (q35, .inr (4, [.ref q1, .ref q15, .ref q23, .ref q36])), (q36, .inl (y 0, 4, .inl (fun _ => 0)))] H := hP
  have hD : va_D A [(h, .inr (7, [.ref q1, .ref q9, .ref q11, .ref q15, .ref q23, .null])), (q1, .inr (1, [.ref q2, .ref q3, .ref q4, .ref q5, .ref q6, .ref q7, .ref q8, .int 0])), (q2, .inl (y 0, 240, .inl (fun _ => 0))), (q3, .inl (y 0, 240, .inl (fun _ => 0))), (q4, .inl (y 0, 240, .inl (fun _ => 0))), (q5, .inl (y 0, 240, .inl (fun _ => 0))), (q6, .inl (y 0, 240, .inl (fun _ => 0))), (q7, .inl (y 0, 240, .inl (fun _ => 0))), (q8, .inl (y 2, 960, .inr (.inl (fun _ => 0)))), (q9, .inr (5, [.ref q1, .ref q10, .int 0, .int 0, .int (-1)])), (q10, .inl (y 1, 400, .inl (fun _ => 0))), (q11, .inr (2, [.ref q1, .ref q12, .ref q13, .ref q14, .int 0, .int 0])), (q12, .inl (y 1, 400, .inl (fun _ => 0))), (q13, .inl (y 0, 400, .inl (fun _ => 0))), (q14, .inl (y 0, 400, .inl (fun _ => 0))), (q15, .inr (6, [.ref q1, .ref q16, .ref q17, .ref q18, .ref q19, .ref q20, .ref q21, .ref q22, .int 0])), (q16, .inl (y 0, 16, .inl (fun _ => 0))), (q17, .inl (y 0, 16, .inl (fun _ => 0))), (q18, .inl (y 0, 16, .inl (fun _ => 0))), (q19, .inl (y 0, 16, .inl (fun _ => 0))), (q20, .inl (y 0, 16, .inl (fun _ => 0))), (q21, .inl (y 0, 16, .inl (fun _ => 0))), (q22, .inl (y 0, 240, .inl (fun _ => 0))), (q23, .inr (3, [.ref q1, .ref q15, .ref q24, .ref q28, .ref q29, .ref q30, .ref q31, .ref q32, .ref q33, .ref q34, .int 0, .int 0])), (q24, .inr (0, [.ref q25, .ref q26, .ref q27, .int 0, .int 0, .int (-1)])), (q25, .inl (y 0, 60, .inl (fun _ => 0))), (q26, .inl (y 0, 60, .inl (fun _ => 0))), (q27, .inl (y 0, 60, .inl (fun _ => 0))), (q28, .inl (y 0, 60, .inl (fun _ => 0))), (q29, .inl (y 0, 60, .inl (fun _ => 0))), (q30, .inl (y 0, 180, .inl (fun _ => 0))), (q31, .inl (y 0, 180, .inl (fun _ => 0))), (q32, .inl (y 0, 60, .inl (fun _ => 0))), (q33, .inl (y 3, 60, .inl (fun _ => 0))), (q34, .inl (y 0, 120, .inl (fun _ => 0))), (q35, .inr (4, [.ref q1, .ref q15, .ref q23, .ref q36])), (q36, .inl (y 0, 4, .inl (fun _ => 0)))] := hD
  refine va_putF (D := D) (ci := 7) (v := .ref q35) (ty := .object "ProofDesk$Rules") (C := RX7) (T := TX7) (N := 6) hx hb h_w (fun _ h => h) tyX7 tyX7_ok nmX7 hown hK hP hD hS 0 rfl rfl 5 (by decide) l_f53 (fun _ h9 => h9) rfl hin rfl (by decide +kernel) rfl rfl (Nat.le_of_ble_eq_true rfl) dX7_init_99 (fun H locs hP hD hS => ?_)
  have hP : va_P D vwCl [(h, .inr (7, [.ref q1, .ref q9, .ref q11, .ref q15, .ref q23, .ref q35])), (q1, .inr (1, [.ref q2, .ref q3, .ref q4, .ref q5, .ref q6, .ref q7, .ref q8, .int 0])), (q2, .inl (y 0, 240, .inl (fun _ => 0))), (q3, .inl (y 0, 240, .inl (fun _ => 0))), (q4, .inl (y 0, 240, .inl (fun _ => 0))), (q5, .inl (y 0, 240, .inl (fun _ => 0))), (q6, .inl (y 0, 240, .inl (fun _ => 0))), (q7, .inl (y 0, 240, .inl (fun _ => 0))), (q8, .inl (y 2, 960, .inr (.inl (fun _ => 0)))), (q9, .inr (5, [.ref q1, .ref q10, .int 0, .int 0, .int (-1)])), (q10, .inl (y 1, 400, .inl (fun _ => 0))), (q11, .inr (2, [.ref q1, .ref q12, .ref q13, .ref q14, .int 0, .int 0])), (q12, .inl (y 1, 400, .inl (fun _ => 0))), (q13, .inl (y 0, 400, .inl (fun _ => 0))), (q14, .inl (y 0, 400, .inl (fun _ => 0))), (q15, .inr (6, [.ref q1, .ref q16, .ref q17, .ref q18, .ref q19, .ref q20, .ref q21, .ref q22, .int 0])), (q16, .inl (y 0, 16, .inl (fun _ => 0))), (q17, .inl (y 0, 16, .inl (fun _ => 0))), (q18, .inl (y 0, 16, .inl (fun _ => 0))), (q19, .inl (y 0, 16, .inl (fun _ => 0))), (q20, .inl (y 0, 16, .inl (fun _ => 0))), (q21, .inl (y 0, 16, .inl (fun _ => 0))), (q22, .inl (y 0, 240, .inl (fun _ => 0))), (q23, .inr (3, [.ref q1, .ref q15, .ref q24, .ref q28, .ref q29, .ref q30, .ref q31, .ref q32, .ref q33, .ref q34, .int 0, .int 0])), (q24, .inr (0, [.ref q25, .ref q26, .ref q27, .int 0, .int 0, .int (-1)])), (q25, .inl (y 0, 60, .inl (fun _ => 0))), (q26, .inl (y 0, 60, .inl (fun _ => 0))), (q27, .inl (y 0, 60, .inl (fun _ => 0))), (q28, .inl (y 0, 60, .inl (fun _ => 0))), (q29, .inl (y 0, 60, .inl (fun _ => 0))), (q30, .inl (y 0, 180, .inl (fun _ => 0))), (q31, .inl (y 0, 180, .inl (fun _ => 0))), (q32, .inl (y 0, 60, .inl (fun _ => 0))), (q33, .inl (y 3, 60, .inl (fun _ => 0))), (q34, .inl (y 0, 120, .inl (fun _ => 0))), (q35, .inr (4, [.ref q1, .ref q15, .ref q23, .ref q36])), (q36, .inl (y 0, 4, .inl (fun _ => 0)))] H := hP
  have hD : va_D A [(h, .inr (7, [.ref q1, .ref q9, .ref q11, .ref q15, .ref q23, .ref q35])), (q1, .inr (1, [.ref q2, .ref q3, .ref q4, .ref q5, .ref q6, .ref q7, .ref q8, .int 0])), (q2, .inl (y 0, 240, .inl (fun _ => 0))), (q3, .inl (y 0, 240, .inl (fun _ => 0))), (q4, .inl (y 0, 240, .inl (fun _ => 0))), (q5, .inl (y 0, 240, .inl (fun _ => 0))), (q6, .inl (y 0, 240, .inl (fun _ => 0))), (q7, .inl (y 0, 240, .inl (fun _ => 0))), (q8, .inl (y 2, 960, .inr (.inl (fun _ => 0)))), (q9, .inr (5, [.ref q1, .ref q10, .int 0, .int 0, .int (-1)])), (q10, .inl (y 1, 400, .inl (fun _ => 0))), (q11, .inr (2, [.ref q1, .ref q12, .ref q13, .ref q14, .int 0, .int 0])), (q12, .inl (y 1, 400, .inl (fun _ => 0))), (q13, .inl (y 0, 400, .inl (fun _ => 0))), (q14, .inl (y 0, 400, .inl (fun _ => 0))), (q15, .inr (6, [.ref q1, .ref q16, .ref q17, .ref q18, .ref q19, .ref q20, .ref q21, .ref q22, .int 0])), (q16, .inl (y 0, 16, .inl (fun _ => 0))), (q17, .inl (y 0, 16, .inl (fun _ => 0))), (q18, .inl (y 0, 16, .inl (fun _ => 0))), (q19, .inl (y 0, 16, .inl (fun _ => 0))), (q20, .inl (y 0, 16, .inl (fun _ => 0))), (q21, .inl (y 0, 16, .inl (fun _ => 0))), (q22, .inl (y 0, 240, .inl (fun _ => 0))), (q23, .inr (3, [.ref q1, .ref q15, .ref q24, .ref q28, .ref q29, .ref q30, .ref q31, .ref q32, .ref q33, .ref q34, .int 0, .int 0])), (q24, .inr (0, [.ref q25, .ref q26, .ref q27, .int 0, .int 0, .int (-1)])), (q25, .inl (y 0, 60, .inl (fun _ => 0))), (q26, .inl (y 0, 60, .inl (fun _ => 0))), (q27, .inl (y 0, 60, .inl (fun _ => 0))), (q28, .inl (y 0, 60, .inl (fun _ => 0))), (q29, .inl (y 0, 60, .inl (fun _ => 0))), (q30, .inl (y 0, 180, .inl (fun _ => 0))), (q31, .inl (y 0, 180, .inl (fun _ => 0))), (q32, .inl (y 0, 60, .inl (fun _ => 0))), (q33, .inl (y 3, 60, .inl (fun _ => 0))), (q34, .inl (y 0, 120, .inl (fun _ => 0))), (q35, .inr (4, [.ref q1, .ref q15, .ref q23, .ref q36])), (q36, .inl (y 0, 4, .inl (fun _ => 0)))] := hD
  exact W.vret hx hb hr (fun T hT hW => ⟨⟨(), rfl, trivial, q1, q2, q3, q4, q5, q6, q7, q8, q9, q10, q11, q12, q13, q14, q15, q16, q17, q18, q19, q20, q21, q22, q23, q24, q25, q26, q27, q28, q29, q30, q31, q32, q33, q34, q35, q36, by rw [hT]; exact hP, hD⟩, hS.F hT⟩) hS.2.2 dX7_init_102
