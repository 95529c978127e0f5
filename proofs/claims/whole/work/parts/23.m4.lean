theorem eX8_isTheorem : yX8_isTheorem.cls = RX8 ∧ yX8_isTheorem.cls ≠ "java/lang/invoke/MethodHandle" ∧ yX8_isTheorem.cls ≠ "java/lang/invoke/VarHandle" ∧ (parseMethodDescriptor yX8_isTheorem.desc).map (fun d => d.parameters.length) = some 1 := by decide +kernel
def mX8_isTheorem (σ : St) (p1 : Int32) : Option Int32 :=
(mX8_isIn σ p1 0 ((σ.1 10 0) - 1)).bind fun r1 =>
chkZ r1 (some r1)
set_option maxHeartbeats 4000000 in
set_option maxRecDepth 100000 in
theorem kX8_isTheorem (l : Launch) (D : va_G) (y : Nat → ClassId) (a t : Nat → Nat) (hI : AI a 30) (sz : Nat) (σ : St) (p1 : Int32) (r : Int32) (hm : mX8_isTheorem σ p1 = some r) : Met l yX8_isTheorem zX8_isTheorem { frames := 1, cells := 0, slots := 0, locals := 22 } (va_Pc [.ref (a 0), .int p1] (preW (wM y a) a 30 D y t σ sz)) (va_Qi (fun r' u => r' = r ∧ u = σ) (posW (wM y a) D) (AC a 30 sz)) 0 0 (AC a 30 sz) := by
  refine Met.ofW (cc := cX8_isTheorem) (maxL := 2) (ret := (some .boolean)) (by decide) rfl ?_
  intro p e s m args below meth c s₁ B hml hv
  obtain ⟨rfl, hsz, hP, hK, hF⟩ := hv
  have hx := B.exec
  have hb := B.bytes
  have hr := B.returns
  have hts := atoms_spec (ws := zX8_isTheorem) B.pre
  have hown : s.vm.findClass RX8 = some m.cls := findClass_of_methodNamed B.named
  have hlocks := B.notSynchronized
  subst hsz
  have l_f227 := hts _ (List.mem_cons_of_mem _ aF_X8_227)
  have h_X8 : ∀ w ∈ wsX80, w.before _ s = true := fun w hw => hts w (List.mem_cons_of_mem _ (hwX8 w hw))
  have hS : va_S (AC a 30 s.heap.size) s.heap s.heap [] := va_S.rf
  have hl := lv_entry ([.ref (a 0), .int p1]) (n := 2) (Nat.le_of_ble_eq_true rfl)
  rw [lg_entry_eq]
  generalize (lg_sl ([.ref (a 0), .int p1]) ++ List.replicate (2 - (lg_sl ([.ref (a 0), .int p1])).length) Slot.unset).toArray = ls at hl ⊢
  have hl : lv_has ls 2 [(0, .ref (a 0)), (1, .int p1)] := hl
  unfold mX8_isTheorem at hm
  refine lv_iload_n hx hb dX8_isTheorem_0 rfl (lv_at hl 1 rfl) ?_
  refine lv_iconst (v := 0) hx hb dX8_isTheorem_1 (by decide) ?_
  refine lv_aload_n hx hb dX8_isTheorem_2 rfl (lv_at hl 0 rfl) ?_
  refine gfX8_theorems hx hb h_X8 hown hK hP l_f227 dX8_isTheorem_3 ?_
  refine lv_iconst (v := 1) hx hb dX8_isTheorem_6 (by decide) ?_
  refine lv_isub hx hb dX8_isTheorem_7 ?_
  obtain ⟨r1, h2, hm⟩ := ok_bind hm
  refine calS_i (As := [.int p1, .int 0, .int ((σ.1 10 0) - 1)]) (rest := []) ⟨hx, hb, hml, hown, hts⟩ (kX8_isIn l D y a t hI _ σ p1 0 ((σ.1 10 0) - 1) r1 h2) (va_cwS 3 hts (gAS aM_X8_112 aT_X8_isIn aN_X8 aC_X8_isIn) rfl rfl rfl eX8_isIn ⟨Nat.le_of_ble_eq_true rfl, Nat.le_of_ble_eq_true rfl⟩) (preS_W hK hP hF hS) rfl hl.1 rfl (Nat.le_of_ble_eq_true rfl) dX8_isTheorem_8 ⟨Nat.zero_le _, Nat.zero_le _⟩ hS (AC_le hS.1) (fun H locs hP hS hk1 => ?_)
  obtain ⟨hz, hm⟩ := ok_Z hm
  exact W.zret (v := r1) hx hb hr hz (fun T hT hW => ⟨⟨r1, σ, rfl, ⟨Option.some.inj hm, rfl⟩, by rw [posW, hT]; exact hP⟩, hS.F hT⟩) hS.2.2 dX8_isTheorem_11
theorem eX8_theorem : yX8_theorem.cls = RX8 ∧ yX8_theorem.cls ≠ "java/lang/invoke/MethodHandle" ∧ yX8_theorem.cls ≠ "java/lang/invoke/VarHandle" ∧ (parseMethodDescriptor yX8_theorem.desc).map (fun d => d.parameters.length) = some 2 := by decide +kernel
def mX8_theorem_32 (s1 : St) : Option (Int32 × St) :=
(mX8_no s1 1).bind fun ⟨r2, s4⟩ =>
some (r2, s4)
def mX8_theorem (σ : St) (p1 : Int32) (p2 : Int32) : Option (Int32 × St) :=
bnd (su σ 0 (fun _ => 0)) fun s5 =>
(mX8_isTheorem s5 p1).bind fun r6 =>
if r6 = 0 then (
mX8_theorem_32 s5)
else (
(mX8_isIn s5 p2 0 6).bind fun r9 =>
if r9 = 0 then (
mX8_theorem_32 s5)
else (
(mX8_theoremTold s5 p1 p2).bind fun ⟨r12, s14⟩ =>
some (r12, s14)))
set_option maxHeartbeats 4000000 in
set_option maxRecDepth 100000 in
theorem kX8_theorem (l : Launch) (D : va_G) (y : Nat → ClassId) (a t : Nat → Nat) (hI : AI a 30) (sz : Nat) (σ τ : St) (p1 : Int32) (p2 : Int32) (r : Int32) (hm : mX8_theorem σ p1 p2 = some (r, τ)) : Met l yX8_theorem zX8_theorem { frames := 2, cells := 1, slots := 7, locals := 43 } (va_Pc [.ref (a 0), .int p1, .int p2] (preW (wM y a) a 30 D y t σ sz)) (va_Qi (fun r' u => r' = r ∧ u = τ) (posW (wM y a) D) (AC a 30 sz)) 1 7 (AC a 30 sz) := by
  refine Met.ofW (cc := cX8_theorem) (maxL := 3) (ret := (some .int)) (by decide) rfl ?_
  intro p e s m args below meth c s₁ B hml hv
  obtain ⟨rfl, hsz, hP, hK, hF⟩ := hv
  have hx := B.exec
  have hb := B.bytes
  have hr := B.returns
  have hts := atoms_spec (ws := zX8_theorem) B.pre
  have hown : s.vm.findClass RX8 = some m.cls := findClass_of_methodNamed B.named
  have hlocks := B.notSynchronized
  subst hsz
  have l_f106 := hts _ (List.mem_cons_of_mem _ aF_X8_106)
  have h_X8 : ∀ w ∈ wsX80, w.before _ s = true := fun w hw => hts w (List.mem_cons_of_mem _ (hwX8 w hw))
  have hS : va_S (AC a 30 s.heap.size) s.heap s.heap [] := va_S.rf
  have hl := lv_entry ([.ref (a 0), .int p1, .int p2]) (n := 3) (Nat.le_of_ble_eq_true rfl)
  rw [lg_entry_eq]
  generalize (lg_sl ([.ref (a 0), .int p1, .int p2]) ++ List.replicate (3 - (lg_sl ([.ref (a 0), .int p1, .int p2])).length) Slot.unset).toArray = ls at hl ⊢
  have hl : lv_has ls 3 [(0, .ref (a 0)), (1, .int p1), (2, .int p2)] := hl
  have L_32 : ∀ (s1 : St) (H : Heap) (locs : List Loc) (ls : Array Slot), va_P D vwCl (wM y a s1) H → va_S (AC a 30 s.heap.size) s.heap H locs → lv_has ls 3 [(0, .ref (a 0))] → mX8_theorem_32 s1 = some (r, τ) → W p l e (headSpec zX8_theorem ({ frames := 2, cells := 1, slots := 7, locals := 43 })).room s m ([.ref (a 0), .int p1, .int p2] : List Value).toArray below meth c H locs 0 0 (MQ below (va_Qi (fun r' u => r' = r ∧ u = τ) (posW (wM y a) D) (AC a 30 s.heap.size)) ([.ref (a 0), .int p1, .int p2] : List Value).toArray s 1 7 (AC a 30 s.heap.size)) (F0 m 32 ls []) := by
    intro s1 H locs ls hP hS hl hm
    unfold mX8_theorem_32 at hm
    refine lv_aload_n hx hb dX8_theorem_32 rfl (lv_at hl 0 rfl) ?_
    refine lv_iconst (v := 1) hx hb dX8_theorem_33 (by decide) ?_
    obtain ⟨⟨r2, s4⟩, h3, hm⟩ := ok_bind hm
    refine calV_i (As := [.int 1]) (rest := []) ⟨hx, hb, hml, hown, hts⟩ (kX8_no l D y a t hI _ s1 s4 1 r2 h3) (cwV 1 hts (gAV aM_X8_119 aI_X8_no aS_X8_no aN_X8 aC_X8_no) rfl rfl rfl eX8_no ⟨Nat.le_of_ble_eq_true rfl, Nat.le_of_ble_eq_true rfl⟩) (preV_W (ci := 8) (q := (RX8, TX8, 42)) hK hP hF hS rfl (wM_0 y a s1)) rfl hl.1 rfl (Nat.le_of_ble_eq_true rfl) dX8_theorem_34 ⟨Nat.zero_le _, Nat.zero_le _⟩ hS (AC_le hS.1) (fun H locs hP hS hk1 => ?_)
    refine W.widen (k := 1) (n := 7) (by decide) (by decide) ?_
    exact W.iret (v := r2) hx hb hr (fun T hT hW => ⟨⟨r2, s4, rfl, ⟨congrArg Prod.fst (Option.some.inj hm), congrArg Prod.snd (Option.some.inj hm)⟩, by rw [posW, hT]; exact hP⟩, hS.F hT⟩) hS.2.2 dX8_theorem_37
  unfold mX8_theorem at hm
  refine lv_aload_n hx hb dX8_theorem_0 rfl (lv_at hl 0 rfl) ?_
  refine lv_iconst (v := 0) hx hb dX8_theorem_1 (by decide) ?_
  refine pfX8_thrown hx hb h_X8 hown hK hP hI AC_in hS l_f106 dX8_theorem_2 (fun H locs hP hS => ?_)
  generalize es5 : su σ 0 (fun _ => 0) = s5 at hP
  have hm := bnd_x es5.symm hm
  refine lv_aload_n hx hb dX8_theorem_5 rfl (lv_at hl 0 rfl) ?_
  refine lv_iload_n hx hb dX8_theorem_6 rfl (lv_at hl 1 rfl) ?_
  obtain ⟨r6, h7, hm⟩ := ok_bind hm
  refine calV_i (As := [.int p1]) (rest := []) ⟨hx, hb, hml, hown, hts⟩ (kX8_isTheorem l D y a t hI _ s5 p1 r6 h7) (cwV 1 hts (gAV aM_X8_283 aI_X8_isTheorem aS_X8_isTheorem aN_X8 aC_X8_isTheorem) rfl rfl rfl eX8_isTheorem ⟨Nat.le_of_ble_eq_true rfl, Nat.le_of_ble_eq_true rfl⟩) (preV_W (ci := 8) (q := (RX8, TX8, 42)) hK hP hF hS rfl (wM_0 y a s5)) rfl hl.1 rfl (Nat.le_of_ble_eq_true rfl) dX8_theorem_7 ⟨Nat.zero_le _, Nat.zero_le _⟩ hS (AC_le hS.1) (fun H locs hP hS hk1 => ?_)
  refine lv_if_eq (tgt := 32) hx hb dX8_theorem_10 (by decide) (fun c8 => ?_) (fun c8 => ?_)
  · have hm := (if_pos c8).symm.trans hm
    exact L_32 s5 _ _ _ hP hS (lv_sub hl [0] rfl) hm
  · have hm := (if_neg c8).symm.trans hm
    refine lv_iload_n hx hb dX8_theorem_13 rfl (lv_at hl 2 rfl) ?_
    refine lv_iconst (v := 0) hx hb dX8_theorem_14 (by decide) ?_
    refine lv_bipush (v := 6) hx hb dX8_theorem_15 (by decide) ?_
    obtain ⟨r9, h10, hm⟩ := ok_bind hm
    refine calS_i (As := [.int p2, .int 0, .int 6]) (rest := []) ⟨hx, hb, hml, hown, hts⟩ (kX8_isIn l D y a t hI _ s5 p2 0 6 r9 h10) (va_cwS 3 hts (gAS aM_X8_112 aT_X8_isIn aN_X8 aC_X8_isIn) rfl rfl rfl eX8_isIn ⟨Nat.le_of_ble_eq_true rfl, Nat.le_of_ble_eq_true rfl⟩) (preS_W hK hP hF hS) rfl hl.1 rfl (Nat.le_of_ble_eq_true rfl) dX8_theorem_17 ⟨Nat.zero_le _, Nat.zero_le _⟩ hS (AC_le hS.1) (fun H locs hP hS hk1 => ?_)
    refine lv_if_eq (tgt := 32) hx hb dX8_theorem_20 (by decide) (fun c11 => ?_) (fun c11 => ?_)
    · have hm := (if_pos c11).symm.trans hm
      exact L_32 s5 _ _ _ hP hS (lv_sub hl [0] rfl) hm
    · have hm := (if_neg c11).symm.trans hm
      refine lv_aload_n hx hb dX8_theorem_23 rfl (lv_at hl 0 rfl) ?_
      refine lv_iload_n hx hb dX8_theorem_24 rfl (lv_at hl 1 rfl) ?_
      refine lv_iload_n hx hb dX8_theorem_25 rfl (lv_at hl 2 rfl) ?_
      obtain ⟨⟨r12, s14⟩, h13, hm⟩ := ok_bind hm
      refine calV_iA (As := [.int p1, .int p2]) (rest := []) ⟨hx, hb, hml, hown, hts⟩ (kX8_theoremTold l D y a t hI _ s5 s14 p1 p2 r12 h13) (cwV 2 hts (gAV aM_X8_286 aI_X8_theoremTold aS_X8_theoremTold aN_X8 aC_X8_theoremTold) rfl rfl rfl eX8_theoremTold ⟨Nat.le_of_ble_eq_true rfl, Nat.le_of_ble_eq_true rfl⟩) (preV_W (ci := 8) (q := (RX8, TX8, 42)) hK hP hF hS rfl (wM_0 y a s5)) rfl hl.1 rfl (Nat.le_of_ble_eq_true rfl) dX8_theorem_26 ⟨Nat.le_of_ble_eq_true rfl, Nat.le_of_ble_eq_true rfl⟩ hS (AC_le hS.1) (fun H locs hP hS hk1 => ?_)
      refine W.widen (k := 1) (n := 7) (by decide) (by decide) ?_
      refine lv_goto (tgt := 37) hx hb dX8_theorem_29 (by decide) ?_
      exact W.iret (v := r12) hx hb hr (fun T hT hW => ⟨⟨r12, s14, rfl, ⟨congrArg Prod.fst (Option.some.inj hm), congrArg Prod.snd (Option.some.inj hm)⟩, by rw [posW, hT]; exact hP⟩, hS.F hT⟩) hS.2.2 dX8_theorem_37
theorem eX8_instance : yX8_instance.cls = RX8 ∧ yX8_instance.cls ≠ "java/lang/invoke/MethodHandle" ∧ yX8_instance.cls ≠ "java/lang/invoke/VarHandle" ∧ (parseMethodDescriptor yX8_instance.desc).map (fun d => d.parameters.length) = some 3 := by decide +kernel
def mX8_instance_31 (s1 : St) : Option (Int32 × St) :=
(mX8_no s1 1).bind fun ⟨r2, s4⟩ =>
some (r2, s4)
def mX8_instance (σ : St) (p1 : Int32) (p2 : Int32) (p3 : Int32) : Option (Int32 × St) :=
bnd (su σ 0 (fun _ => 0)) fun s5 =>
(mX8_isTheorem s5 p1).bind fun r6 =>
if r6 = 0 then (
mX8_instance_31 s5)
else (
(mX8_isFormula s5 p2).bind fun r9 =>
if r9 = 0 then (
mX8_instance_31 s5)
else (
(mX8_isIn s5 p3 0 7).bind fun r12 =>
if r12 = 0 then (
mX8_instance_31 s5)
else (
(mX8_clearStands s5).bind fun s16 =>
chkI p1 16 (
(mX8_becomes s16 (s16.1 29 p1.toNatClampNeg) p2).bind fun ⟨r17, s19⟩ =>
if r17 = 0 then (
some ((-1), s19))
else (
chkI p1 16 (
chkI (s19.1 29 p1.toNatClampNeg) 240 (
if (((s19.1 18 (s19.1 29 p1.toNatClampNeg).toNatClampNeg) >>> (p3 &&& 31)) &&& 1) = 0 then (
some ((-1), s19))
else (
(mX8_find s19 0 p3 (-1)).bind fun r22 =>
chkI r22 240 (
some (s19.1 39 r22.toNatClampNeg, s19))))))))))
set_option maxHeartbeats 4000000 in
set_option maxRecDepth 100000 in
theorem kX8_instance (l : Launch) (D : va_G) (y : Nat → ClassId) (a t : Nat → Nat) (hI : AI a 30) (sz : Nat) (σ τ : St) (p1 : Int32) (p2 : Int32) (p3 : Int32) (r : Int32) (hm : mX8_instance σ p1 p2 p3 = some (r, τ)) : Met l yX8_instance zX8_instance { frames := 257, cells := 0, slots := 0, locals := 5911 } (va_Pc [.ref (a 0), .int p1, .int p2, .int p3] (preW (wM y a) a 30 D y t σ sz)) (va_Qi (fun r' u => r' = r ∧ u = τ) (posW (wM y a) D) (AC a 30 sz)) 0 0 (AC a 30 sz) := by
  refine Met.ofW (cc := cX8_instance) (maxL := 4) (ret := (some .int)) (by decide) rfl ?_
  intro p e s m args below meth c s₁ B hml hv
  obtain ⟨rfl, hsz, hP, hK, hF⟩ := hv
  have hx := B.exec
  have hb := B.bytes
  have hr := B.returns
  have hts := atoms_spec (ws := zX8_instance) B.pre
  have hown : s.vm.findClass RX8 = some m.cls := findClass_of_methodNamed B.named
  have hlocks := B.notSynchronized
  subst hsz
  have l_f106 := hts _ (List.mem_cons_of_mem _ aF_X8_106)
  have l_f67 := hts _ (List.mem_cons_of_mem _ aF_X8_67)
  have l_f29 := hts _ (List.mem_cons_of_mem _ aF_X8_29)
  have l_f97 := hts _ (List.mem_cons_of_mem _ aF_X8_97)
  have h_X8 : ∀ w ∈ wsX80, w.before _ s = true := fun w hw => hts w (List.mem_cons_of_mem _ (hwX8 w hw))
  have hS : va_S (AC a 30 s.heap.size) s.heap s.heap [] := va_S.rf
  have hl := lv_entry ([.ref (a 0), .int p1, .int p2, .int p3]) (n := 4) (Nat.le_of_ble_eq_true rfl)
  rw [lg_entry_eq]
  generalize (lg_sl ([.ref (a 0), .int p1, .int p2, .int p3]) ++ List.replicate (4 - (lg_sl ([.ref (a 0), .int p1, .int p2, .int p3])).length) Slot.unset).toArray = ls at hl ⊢
  have hl : lv_has ls 4 [(0, .ref (a 0)), (1, .int p1), (2, .int p2), (3, .int p3)] := hl
  have L_31 : ∀ (s1 : St) (H : Heap) (locs : List Loc) (ls : Array Slot), va_P D vwCl (wM y a s1) H → va_S (AC a 30 s.heap.size) s.heap H locs → lv_has ls 4 [(0, .ref (a 0))] → mX8_instance_31 s1 = some (r, τ) → W p l e (headSpec zX8_instance ({ frames := 257, cells := 0, slots := 0, locals := 5911 })).room s m ([.ref (a 0), .int p1, .int p2, .int p3] : List Value).toArray below meth c H locs 0 0 (MQ below (va_Qi (fun r' u => r' = r ∧ u = τ) (posW (wM y a) D) (AC a 30 s.heap.size)) ([.ref (a 0), .int p1, .int p2, .int p3] : List Value).toArray s 0 0 (AC a 30 s.heap.size)) (F0 m 31 ls []) := by
    intro s1 H locs ls hP hS hl hm
    unfold mX8_instance_31 at hm
    refine lv_aload_n hx hb dX8_instance_31 rfl (lv_at hl 0 rfl) ?_
    refine lv_iconst (v := 1) hx hb dX8_instance_32 (by decide) ?_
    obtain ⟨⟨r2, s4⟩, h3, hm⟩ := ok_bind hm
    refine calV_i (As := [.int 1]) (rest := []) ⟨hx, hb, hml, hown, hts⟩ (kX8_no l D y a t hI _ s1 s4 1 r2 h3) (cwV 1 hts (gAV aM_X8_119 aI_X8_no aS_X8_no aN_X8 aC_X8_no) rfl rfl rfl eX8_no ⟨Nat.le_of_ble_eq_true rfl, Nat.le_of_ble_eq_true rfl⟩) (preV_W (ci := 8) (q := (RX8, TX8, 42)) hK hP hF hS rfl (wM_0 y a s1)) rfl hl.1 rfl (Nat.le_of_ble_eq_true rfl) dX8_instance_33 ⟨Nat.zero_le _, Nat.zero_le _⟩ hS (AC_le hS.1) (fun H locs hP hS hk1 => ?_)
    exact W.iret (v := r2) hx hb hr (fun T hT hW => ⟨⟨r2, s4, rfl, ⟨congrArg Prod.fst (Option.some.inj hm), congrArg Prod.snd (Option.some.inj hm)⟩, by rw [posW, hT]; exact hP⟩, hS.F hT⟩) hS.2.2 dX8_instance_36
  unfold mX8_instance at hm
  refine lv_aload_n hx hb dX8_instance_0 rfl (lv_at hl 0 rfl) ?_
  refine lv_iconst (v := 0) hx hb dX8_instance_1 (by decide) ?_
  refine pfX8_thrown hx hb h_X8 hown hK hP hI AC_in hS l_f106 dX8_instance_2 (fun H locs hP hS => ?_)
  generalize es5 : su σ 0 (fun _ => 0) = s5 at hP
  have hm := bnd_x es5.symm hm
  refine lv_aload_n hx hb dX8_instance_5 rfl (lv_at hl 0 rfl) ?_
  refine lv_iload_n hx hb dX8_instance_6 rfl (lv_at hl 1 rfl) ?_
  obtain ⟨r6, h7, hm⟩ := ok_bind hm
  refine calV_i (As := [.int p1]) (rest := []) ⟨hx, hb, hml, hown, hts⟩ (kX8_isTheorem l D y a t hI _ s5 p1 r6 h7) (cwV 1 hts (gAV aM_X8_283 aI_X8_isTheorem aS_X8_isTheorem aN_X8 aC_X8_isTheorem) rfl rfl rfl eX8_isTheorem ⟨Nat.le_of_ble_eq_true rfl, Nat.le_of_ble_eq_true rfl⟩) (preV_W (ci := 8) (q := (RX8, TX8, 42)) hK hP hF hS rfl (wM_0 y a s5)) rfl hl.1 rfl (Nat.le_of_ble_eq_true rfl) dX8_instance_7 ⟨Nat.zero_le _, Nat.zero_le _⟩ hS (AC_le hS.1) (fun H locs hP hS hk1 => ?_)
  refine lv_if_eq (tgt := 31) hx hb dX8_instance_10 (by decide) (fun c8 => ?_) (fun c8 => ?_)
  · have hm := (if_pos c8).symm.trans hm
    exact L_31 s5 _ _ _ hP hS (lv_sub hl [0] rfl) hm
  · have hm := (if_neg c8).symm.trans hm
    refine lv_aload_n hx hb dX8_instance_13 rfl (lv_at hl 0 rfl) ?_
    refine lv_iload_n hx hb dX8_instance_14 rfl (lv_at hl 2 rfl) ?_
    obtain ⟨r9, h10, hm⟩ := ok_bind hm
    refine calV_i (As := [.int p2]) (rest := []) ⟨hx, hb, hml, hown, hts⟩ (kX8_isFormula l D y a t hI _ s5 p2 r9 h10) (cwV 1 hts (gAV aM_X8_171 aI_X8_isFormula aS_X8_isFormula aN_X8 aC_X8_isFormula) rfl rfl rfl eX8_isFormula ⟨Nat.le_of_ble_eq_true rfl, Nat.le_of_ble_eq_true rfl⟩) (preV_W (ci := 8) (q := (RX8, TX8, 42)) hK hP hF hS rfl (wM_0 y a s5)) rfl hl.1 rfl (Nat.le_of_ble_eq_true rfl) dX8_instance_15 ⟨Nat.zero_le _, Nat.zero_le _⟩ hS (AC_le hS.1) (fun H locs hP hS hk1 => ?_)
    refine lv_if_eq (tgt := 31) hx hb dX8_instance_18 (by decide) (fun c11 => ?_) (fun c11 => ?_)
    · have hm := (if_pos c11).symm.trans hm
      exact L_31 s5 _ _ _ hP hS (lv_sub hl [0] rfl) hm
    · have hm := (if_neg c11).symm.trans hm
      refine lv_iload_n hx hb dX8_instance_21 rfl (lv_at hl 3 rfl) ?_
      refine lv_iconst (v := 0) hx hb dX8_instance_22 (by decide) ?_
      refine lv_bipush (v := 7) hx hb dX8_instance_23 (by decide) ?_
      obtain ⟨r12, h13, hm⟩ := ok_bind hm
      refine calS_i (As := [.int p3, .int 0, .int 7]) (rest := []) ⟨hx, hb, hml, hown, hts⟩ (kX8_isIn l D y a t hI _ s5 p3 0 7 r12 h13) (va_cwS 3 hts (gAS aM_X8_112 aT_X8_isIn aN_X8 aC_X8_isIn) rfl rfl rfl eX8_isIn ⟨Nat.le_of_ble_eq_true rfl, Nat.le_of_ble_eq_true rfl⟩) (preS_W hK hP hF hS) rfl hl.1 rfl (Nat.le_of_ble_eq_true rfl) dX8_instance_25 ⟨Nat.zero_le _, Nat.zero_le _⟩ hS (AC_le hS.1) (fun H locs hP hS hk1 => ?_)
      refine lv_if_ne (tgt := 37) hx hb dX8_instance_28 (by decide) (fun c14 => ?_) (fun c14 => ?_)
      · have hm := (if_neg c14).symm.trans hm
        refine lv_aload_n hx hb dX8_instance_37 rfl (lv_at hl 0 rfl) ?_
        obtain ⟨s16, h15, hm⟩ := ok_bind hm
        refine calV_v (As := []) (rest := []) ⟨hx, hb, hml, hown, hts⟩ (kX8_clearStands l D y a t hI _ s5 s16  h15) (cwV 0 hts (gAV aM_X8_256 aI_X8_clearStands aS_X8_clearStands aN_X8 aC_X8_clearStands) rfl rfl rfl eX8_clearStands ⟨Nat.le_of_ble_eq_true rfl, Nat.le_of_ble_eq_true rfl⟩) (preV_W (ci := 8) (q := (RX8, TX8, 42)) hK hP hF hS rfl (wM_0 y a s5)) rfl hl.1 rfl (Nat.le_of_ble_eq_true rfl) dX8_instance_38 ⟨Nat.zero_le _, Nat.zero_le _⟩ hS (AC_le hS.1) (fun H locs hP hS hk1 => ?_)
        refine lv_aload_n hx hb dX8_instance_41 rfl (lv_at hl 0 rfl) ?_
        refine lv_aload_n hx hb dX8_instance_42 rfl (lv_at hl 0 rfl) ?_
        refine gfX8_conclusions hx hb h_X8 hown hK hP l_f67 dX8_instance_43 ?_
        refine lv_iload_n hx hb dX8_instance_46 rfl (lv_at hl 1 rfl) ?_
        obtain ⟨hi, hm⟩ := ok_I hm
        refine ldM_17 hx hb hK hP hi dX8_instance_47 ?_
        refine lv_iload_n hx hb dX8_instance_48 rfl (lv_at hl 2 rfl) ?_
        obtain ⟨⟨r17, s19⟩, h18, hm⟩ := ok_bind hm
        refine calV_i (As := [.int (s16.1 29 p1.toNatClampNeg), .int p2]) (rest := []) ⟨hx, hb, hml, hown, hts⟩ (kX8_becomes l D y a t hI _ s16 s19 (s16.1 29 p1.toNatClampNeg) p2 r17 h18) (cwV 2 hts (gAV aM_X8_236 aI_X8_becomes aS_X8_becomes aN_X8 aC_X8_becomes) rfl rfl rfl eX8_becomes ⟨Nat.le_of_ble_eq_true rfl, Nat.le_of_ble_eq_true rfl⟩) (preV_W (ci := 8) (q := (RX8, TX8, 42)) hK hP hF hS rfl (wM_0 y a s16)) rfl hl.1 rfl (Nat.le_of_ble_eq_true rfl) dX8_instance_49 ⟨Nat.zero_le _, Nat.zero_le _⟩ hS (AC_le hS.1) (fun H locs hP hS hk1 => ?_)
        refine lv_if_eq (tgt := 73) hx hb dX8_instance_52 (by decide) (fun c20 => ?_) (fun c20 => ?_)
        · have hm := (if_pos c20).symm.trans hm
          refine lv_iconst (v := (-1)) hx hb dX8_instance_73 (by decide) ?_
          exact W.iret (v := (-1)) hx hb hr (fun T hT hW => ⟨⟨(-1), s19, rfl, ⟨congrArg Prod.fst (Option.some.inj hm), congrArg Prod.snd (Option.some.inj hm)⟩, by rw [posW, hT]; exact hP⟩, hS.F hT⟩) hS.2.2 dX8_instance_74
        · have hm := (if_neg c20).symm.trans hm
          refine lv_aload_n hx hb dX8_instance_55 rfl (lv_at hl 0 rfl) ?_
          refine gfX8_letters hx hb h_X8 hown hK hP l_f29 dX8_instance_56 ?_
          refine lv_aload_n hx hb dX8_instance_59 rfl (lv_at hl 0 rfl) ?_
          refine gfX8_conclusions hx hb h_X8 hown hK hP l_f67 dX8_instance_60 ?_
          refine lv_iload_n hx hb dX8_instance_63 rfl (lv_at hl 1 rfl) ?_
          obtain ⟨hi, hm⟩ := ok_I hm
          refine ldM_17 hx hb hK hP hi dX8_instance_64 ?_
          obtain ⟨hi, hm⟩ := ok_I hm
          refine ldM_6 hx hb hK hP hi dX8_instance_65 ?_
          refine lv_iload_n hx hb dX8_instance_66 rfl (lv_at hl 3 rfl) ?_
          refine lv_ishr hx hb dX8_instance_67 ?_
          refine lv_iconst (v := 1) hx hb dX8_instance_68 (by decide) ?_
          refine lv_iand hx hb dX8_instance_69 ?_
          refine lv_if_ne (tgt := 75) hx hb dX8_instance_70 (by decide) (fun c21 => ?_) (fun c21 => ?_)
          · have hm := (if_neg c21).symm.trans hm
            refine lv_aload_n hx hb dX8_instance_75 rfl (lv_at hl 0 rfl) ?_
            refine gfX8_stands hx hb h_X8 hown hK hP l_f97 dX8_instance_76 ?_
            refine lv_aload_n hx hb dX8_instance_79 rfl (lv_at hl 0 rfl) ?_
            refine lv_iconst (v := 0) hx hb dX8_instance_80 (by decide) ?_
            refine lv_iload_n hx hb dX8_instance_81 rfl (lv_at hl 3 rfl) ?_
            refine lv_iconst (v := (-1)) hx hb dX8_instance_82 (by decide) ?_
            obtain ⟨r22, h23, hm⟩ := ok_bind hm
            refine calV_i (As := [.int 0, .int p3, .int (-1)]) (rest := [.ref (a 27)]) ⟨hx, hb, hml, hown, hts⟩ (kX8_find l D y a t hI _ s19 0 p3 (-1) r22 h23) (cwV 3 hts (gAV aM_X8_123 aI_X8_find aS_X8_find aN_X8 aC_X8_find) rfl rfl rfl eX8_find ⟨Nat.le_of_ble_eq_true rfl, Nat.le_of_ble_eq_true rfl⟩) (preV_W (ci := 8) (q := (RX8, TX8, 42)) hK hP hF hS rfl (wM_0 y a s19)) rfl hl.1 rfl (Nat.le_of_ble_eq_true rfl) dX8_instance_83 ⟨Nat.zero_le _, Nat.zero_le _⟩ hS (AC_le hS.1) (fun H locs hP hS hk1 => ?_)
            obtain ⟨hi, hm⟩ := ok_I hm
            refine ldM_27 hx hb hK hP hi dX8_instance_86 ?_
            exact W.iret (v := s19.1 39 r22.toNatClampNeg) hx hb hr (fun T hT hW => ⟨⟨s19.1 39 r22.toNatClampNeg, s19, rfl, ⟨congrArg Prod.fst (Option.some.inj hm), congrArg Prod.snd (Option.some.inj hm)⟩, by rw [posW, hT]; exact hP⟩, hS.F hT⟩) hS.2.2 dX8_instance_87
          · have hm := (if_pos c21).symm.trans hm
            refine lv_iconst (v := (-1)) hx hb dX8_instance_73 (by decide) ?_
            exact W.iret (v := (-1)) hx hb hr (fun T hT hW => ⟨⟨(-1), s19, rfl, ⟨congrArg Prod.fst (Option.some.inj hm), congrArg Prod.snd (Option.some.inj hm)⟩, by rw [posW, hT]; exact hP⟩, hS.F hT⟩) hS.2.2 dX8_instance_74
      · have hm := (if_pos c14).symm.trans hm
        exact L_31 s5 _ _ _ hP hS (lv_sub hl [0] rfl) hm
theorem eX8_thrift : yX8_thrift.cls = RX8 ∧ yX8_thrift.cls ≠ "java/lang/invoke/MethodHandle" ∧ yX8_thrift.cls ≠ "java/lang/invoke/VarHandle" ∧ (parseMethodDescriptor yX8_thrift.desc).map (fun d => d.parameters.length) = some 0 := by decide +kernel
def mX8_thrift_43 (s3 : St) (v1 : Int32) (v2 : Int32) : Option (UInt64 × St) :=
if (s3.1 10 0) = 0 then (
some (FP.dconst1, s3))
else (
chkN (FP.ddiv (FP.i2d v2) (FP.i2d v1)) (
some (FP.ddiv (FP.i2d v2) (FP.i2d v1), s3)))
def bX8_thrift_11 (kh11 : St → Int32 → Int32 → Int32 → Option (UInt64 × St)) (s8 : St) (v5 : Int32) (v6 : Int32) (v7 : Int32) : Option (UInt64 × St) :=
if (s8.1 10 0) ≤ v7 then (
mX8_thrift_43 s8 v5 v6)
else (
chkI v7 16 (
bnd (v5 + (s8.1 32 v7.toNatClampNeg)) fun x10 =>
chkI v7 16 (
bnd (v6 + (s8.1 33 v7.toNatClampNeg)) fun x11 =>
bnd (v7 + 1) fun x12 =>
kh11 s8 x10 x11 x12)))
abbrev mX8_thrift_11 (n : Nat) : St → Int32 → Int32 → Int32 → Option (UInt64 × St) := fx (fun _ _ _ _ => none) (bX8_thrift_11) n
def mX8_thrift (σ : St) : Option (UInt64 × St) :=
bnd (su σ 0 (fun _ => 0)) fun s13 =>
mX8_thrift_11 NF s13 0 0 0
set_option maxHeartbeats 4000000 in
set_option maxRecDepth 100000 in
theorem kX8_thrift (l : Launch) (D : va_G) (y : Nat → ClassId) (a t : Nat → Nat) (hI : AI a 30) (sz : Nat) (σ τ : St) (r : UInt64) (hm : mX8_thrift σ = some (r, τ)) : Met l yX8_thrift zX8_thrift { frames := 0, cells := 0, slots := 0, locals := 0 } (va_Pc [.ref (a 0)] (preW (wM y a) a 30 D y t σ sz)) (va_Qd (fun r' u => r' = r ∧ u = τ) (posW (wM y a) D) (AC a 30 sz)) 0 0 (AC a 30 sz) := by
  refine Met.ofW (cc := cX8_thrift) (maxL := 4) (ret := (some .double)) (by decide) rfl ?_
  intro p e s m args below meth c s₁ B hml hv
  obtain ⟨rfl, hsz, hP, hK, hF⟩ := hv
  have hx := B.exec
  have hb := B.bytes
  have hr := B.returns
  have hts := atoms_spec (ws := zX8_thrift) B.pre
  have hown : s.vm.findClass RX8 = some m.cls := findClass_of_methodNamed B.named
  have hlocks := B.notSynchronized
  subst hsz
  have l_f106 := hts _ (List.mem_cons_of_mem _ aF_X8_106)
  have l_f227 := hts _ (List.mem_cons_of_mem _ aF_X8_227)
  have l_f76 := hts _ (List.mem_cons_of_mem _ aF_X8_76)
  have l_f79 := hts _ (List.mem_cons_of_mem _ aF_X8_79)
  have h_X8 : ∀ w ∈ wsX80, w.before _ s = true := fun w hw => hts w (List.mem_cons_of_mem _ (hwX8 w hw))
  have hS : va_S (AC a 30 s.heap.size) s.heap s.heap [] := va_S.rf
  have hl := lv_entry ([.ref (a 0)]) (n := 4) (Nat.le_of_ble_eq_true rfl)
  rw [lg_entry_eq]
  generalize (lg_sl ([.ref (a 0)]) ++ List.replicate (4 - (lg_sl ([.ref (a 0)])).length) Slot.unset).toArray = ls at hl ⊢
  have hl : lv_has ls 4 [(0, .ref (a 0))] := hl
  have L_43 : ∀ (s3 : St) (v1 : Int32) (v2 : Int32) (H : Heap) (locs : List Loc) (ls : Array Slot), va_P D vwCl (wM y a s3) H → va_S (AC a 30 s.heap.size) s.heap H locs → lv_has ls 4 [(0, .ref (a 0)), (1, .int v1), (2, .int v2)] → mX8_thrift_43 s3 v1 v2 = some (r, τ) → W p l e (headSpec zX8_thrift ({ frames := 0, cells := 0, slots := 0, locals := 0 })).room s m ([.ref (a 0)] : List Value).toArray below meth c H locs 0 0 (MQ below (va_Qd (fun r' u => r' = r ∧ u = τ) (posW (wM y a) D) (AC a 30 s.heap.size)) ([.ref (a 0)] : List Value).toArray s 0 0 (AC a 30 s.heap.size)) (F0 m 43 ls []) := by
    intro s3 v1 v2 H locs ls hP hS hl hm
    unfold mX8_thrift_43 at hm
    refine lv_aload_n hx hb dX8_thrift_43 rfl (lv_at hl 0 rfl) ?_
    refine gfX8_theorems hx hb h_X8 hown hK hP l_f227 dX8_thrift_44 ?_
    refine lv_if_ne (tgt := 54) hx hb dX8_thrift_47 (by decide) (fun c4 => ?_) (fun c4 => ?_)
    · have hm := (if_neg c4).symm.trans hm
      refine lv_iload_n hx hb dX8_thrift_54 rfl (lv_at hl 2 rfl) ?_
      refine lv_i2d hx hb dX8_thrift_55 ?_
      refine lv_iload_n hx hb dX8_thrift_56 rfl (lv_at hl 1 rfl) ?_
      refine lv_i2d hx hb dX8_thrift_57 ?_
      obtain ⟨hn, hm⟩ := ok_N hm
      refine lv_ddiv hx hb dX8_thrift_58 hn ?_
      exact W.dret (v := FP.ddiv (FP.i2d v2) (FP.i2d v1)) hx hb hr (fun T hT hW => ⟨⟨FP.ddiv (FP.i2d v2) (FP.i2d v1), s3, rfl, ⟨congrArg Prod.fst (Option.some.inj hm), congrArg Prod.snd (Option.some.inj hm)⟩, by rw [posW, hT]; exact hP⟩, hS.F hT⟩) hS.2.2 dX8_thrift_59
    · have hm := (if_pos c4).symm.trans hm
      refine lv_dconst1 hx hb dX8_thrift_50 ?_
      refine lv_goto (tgt := 59) hx hb dX8_thrift_51 (by decide) ?_
      exact W.dret (v := FP.dconst1) hx hb hr (fun T hT hW => ⟨⟨FP.dconst1, s3, rfl, ⟨congrArg Prod.fst (Option.some.inj hm), congrArg Prod.snd (Option.some.inj hm)⟩, by rw [posW, hT]; exact hP⟩, hS.F hT⟩) hS.2.2 dX8_thrift_59
  have L_11 : ∀ (n : Nat) (s8 : St) (v5 : Int32) (v6 : Int32) (v7 : Int32) (H : Heap) (locs : List Loc) (ls : Array Slot), va_P D vwCl (wM y a s8) H → va_S (AC a 30 s.heap.size) s.heap H locs → lv_has ls 4 [(0, .ref (a 0)), (1, .int v5), (2, .int v6), (3, .int v7)] → mX8_thrift_11 n s8 v5 v6 v7 = some (r, τ) → W p l e (headSpec zX8_thrift ({ frames := 0, cells := 0, slots := 0, locals := 0 })).room s m ([.ref (a 0)] : List Value).toArray below meth c H locs 0 0 (MQ below (va_Qd (fun r' u => r' = r ∧ u = τ) (posW (wM y a) D) (AC a 30 s.heap.size)) ([.ref (a 0)] : List Value).toArray s 0 0 (AC a 30 s.heap.size)) (F0 m 11 ls []) := by
    intro n
    induction n with
    | zero =>
      intro s8 v5 v6 v7 H locs ls hP hS hl hm
      exact absurd (show (none : Option (UInt64 × St)) = some (r, τ) from hm) (by intro h; cases h)
    | succ n ih11 =>
      obtain ⟨kh11, ekh11⟩ : ∃ z, z = mX8_thrift_11 n := ⟨_, rfl⟩
      have ih11 : ∀ (s8 : St) (v5 : Int32) (v6 : Int32) (v7 : Int32) (H : Heap) (locs : List Loc) (ls : Array Slot), va_P D vwCl (wM y a s8) H → va_S (AC a 30 s.heap.size) s.heap H locs → lv_has ls 4 [(0, .ref (a 0)), (1, .int v5), (2, .int v6), (3, .int v7)] → kh11 s8 v5 v6 v7 = some (r, τ) → W p l e (headSpec zX8_thrift ({ frames := 0, cells := 0, slots := 0, locals := 0 })).room s m ([.ref (a 0)] : List Value).toArray below meth c H locs 0 0 (MQ below (va_Qd (fun r' u => r' = r ∧ u = τ) (posW (wM y a) D) (AC a 30 s.heap.size)) ([.ref (a 0)] : List Value).toArray s 0 0 (AC a 30 s.heap.size)) (F0 m 11 ls []) := by rw [ekh11]; exact ih11
      intro s8 v5 v6 v7 H locs ls hP hS hl hm
      have hm : bX8_thrift_11 (mX8_thrift_11 n) s8 v5 v6 v7 = some (r, τ) := hm
      rw [← ekh11] at hm
      unfold bX8_thrift_11 at hm
      refine lv_iload_n hx hb dX8_thrift_11 rfl (lv_at hl 3 rfl) ?_
      refine lv_aload_n hx hb dX8_thrift_12 rfl (lv_at hl 0 rfl) ?_
      refine gfX8_theorems hx hb h_X8 hown hK hP l_f227 dX8_thrift_13 ?_
      refine lv_icmp_ge (tgt := 43) hx hb dX8_thrift_16 (by decide) (fun c9 => ?_) (fun c9 => ?_)
      · have hm := (if_pos c9).symm.trans hm
        exact L_43 s8 v5 v6 _ _ _ hP hS (lv_sub hl [0, 1, 2] rfl) hm
      · have hm := (if_neg c9).symm.trans hm
        refine lv_iload_n hx hb dX8_thrift_19 rfl (lv_at hl 1 rfl) ?_
        refine lv_aload_n hx hb dX8_thrift_20 rfl (lv_at hl 0 rfl) ?_
        refine gfX8_proofLines hx hb h_X8 hown hK hP l_f76 dX8_thrift_21 ?_
        refine lv_iload_n hx hb dX8_thrift_24 rfl (lv_at hl 3 rfl) ?_
        obtain ⟨hi, hm⟩ := ok_I hm
        refine ldM_20 hx hb hK hP hi dX8_thrift_25 ?_
        refine lv_iadd hx hb dX8_thrift_26 ?_
        refine lv_topi (fun x10 ex10 => ?_)
        have hm := bnd_x ex10 hm
        refine lv_istore_n (lv' := [(1, .int x10), (0, .ref (a 0)), (2, .int v6), (3, .int v7)]) hx hb dX8_thrift_27 rfl hl (by decide) rfl (fun ls hl => ?_)
        refine lv_iload_n hx hb dX8_thrift_28 rfl (lv_at hl 2 rfl) ?_
        refine lv_aload_n hx hb dX8_thrift_29 rfl (lv_at hl 1 rfl) ?_
        refine gfX8_proofNeeded hx hb h_X8 hown hK hP l_f79 dX8_thrift_30 ?_
        refine lv_iload_n hx hb dX8_thrift_33 rfl (lv_at hl 3 rfl) ?_
        obtain ⟨hi, hm⟩ := ok_I hm
        refine ldM_21 hx hb hK hP hi dX8_thrift_34 ?_
        refine lv_iadd hx hb dX8_thrift_35 ?_
        refine lv_topi (fun x11 ex11 => ?_)
        have hm := bnd_x ex11 hm
        refine lv_istore_n (lv' := [(2, .int x11), (1, .int x10), (0, .ref (a 0)), (3, .int v7)]) hx hb dX8_thrift_36 rfl hl (by decide) rfl (fun ls hl => ?_)
        obtain ⟨x12, ex12⟩ : ∃ z : Int32, z = v7 + 1 := ⟨_, rfl⟩
        have hm := bnd_x ex12 hm
        refine lv_iinc (v := x12) (lv' := [(3, .int x12), (2, .int x11), (1, .int x10), (0, .ref (a 0))]) hx hb dX8_thrift_37 hl (k := 3) rfl (by rw [ex12]; rfl) (by decide) rfl (fun ls hl => ?_)
        refine lv_goto (tgt := 11) hx hb dX8_thrift_40 (by decide) ?_
        exact ih11 s8 x10 x11 x12 _ _ _ hP hS (lv_sub hl [3, 2, 1, 0] rfl) hm
  unfold mX8_thrift at hm
  refine lv_aload_n hx hb dX8_thrift_0 rfl (lv_at hl 0 rfl) ?_
  refine lv_iconst (v := 0) hx hb dX8_thrift_1 (by decide) ?_
  refine pfX8_thrown hx hb h_X8 hown hK hP hI AC_in hS l_f106 dX8_thrift_2 (fun H locs hP hS => ?_)
  generalize es13 : su σ 0 (fun _ => 0) = s13 at hP
  have hm := bnd_x es13.symm hm
  refine lv_iconst (v := 0) hx hb dX8_thrift_5 (by decide) ?_
  refine lv_istore_n (lv' := [(1, .int 0), (0, .ref (a 0))]) hx hb dX8_thrift_6 rfl hl (by decide) rfl (fun ls hl => ?_)
  refine lv_iconst (v := 0) hx hb dX8_thrift_7 (by decide) ?_
  refine lv_istore_n (lv' := [(2, .int 0), (1, .int 0), (0, .ref (a 0))]) hx hb dX8_thrift_8 rfl hl (by decide) rfl (fun ls hl => ?_)
  refine lv_iconst (v := 0) hx hb dX8_thrift_9 (by decide) ?_
  refine lv_istore_n (lv' := [(3, .int 0), (2, .int 0), (1, .int 0), (0, .ref (a 0))]) hx hb dX8_thrift_10 rfl hl (by decide) rfl (fun ls hl => ?_)
  exact L_11 NF s13 0 0 0 _ _ _ hP hS (lv_sub hl [3, 2, 1, 0] rfl) hm
