theorem eX8_isTheorem : yX8_isTheorem.cls = RX8 ∧ yX8_isTheorem.cls ≠ "java/lang/invoke/MethodHandle" ∧ yX8_isTheorem.cls ≠ "java/lang/invoke/VarHandle" ∧ (parseMethodDescriptor yX8_isTheorem.desc).map (fun d => d.parameters.length) = some 1 := by decide +kernel
def mX8_isTheorem (σ : St) (p1 : Int32) : Option Int32 :=
(mX8_isIn σ p1 0 ((σ.1 10 0) - 1)).bind fun r1 =>
chkZ r1 (some r1)
set_option maxHeartbeats 4000000 in
set_option maxRecDepth 100000 in
theorem kX8_isTheorem (l : Launch) (D : va_G) (y : Nat → ClassId) (a t : Nat → Nat) (hI : AI a 30) (sz : Nat) (σ : St) (p1 : Int32) (r : Int32) (hm : mX8_isTheorem σ p1 = some r) : Met l yX8_isTheorem zX8_isTheorem { frames := 1, cells := 0, slots := 0, locals := 22 } (va_Pc [.ref (a 0), .int p1] (preW (wM y a) a 30 D y t σ sz)) (va_Qi (fun r' u => r' = r ∧ u = σ) (posW (wM y a) D) (AC a 30 sz)) 0 0 (AC a 30 sz) := by
  refine Met.ofW (cc := cX8_isTheorem) (maxL := 2) (ret := (some .boolean)) (by decide) rfl ?_
  intro p e s m args below meth c s₁ B hml hv
  obtain ⟨rfl, hsz, hP, hK, hF⟩ := hv
  have hx := B.exec
  have hb := B.bytes
  have hr := B.returns
  have hts := atoms_spec (ws := zX8_isTheorem) B.pre
  have hown : s.vm.findClass RX8 = some m.cls := findClass_of_methodNamed B.named
  have hlocks := B.notSynchronized
  subst hsz
  have l_f227 := hts _ (List.mem_cons_of_mem _ aF_X8_227)
  have h_X8 : ∀ w ∈ wsX80, w.before _ s = true := fun w hw => hts w (List.mem_cons_of_mem _ (hwX8 w hw))
  have hS : va_S (AC a 30 s.heap.size) s.heap s.heap [] := va_S.rf
  have hl := lv_entry ([.ref (a 0), .int p1]) (n := 2) (Nat.le_of_ble_eq_true rfl)
  rw [lg_entry_eq]
  generalize (lg_sl ([.ref (a 0), .int p1]) ++ List.replicate (2 - (lg_sl ([.ref (a 0), .int p1])).length) Slot.unset).toArray = ls at hl ⊢
  have hl : lv_has ls 2 [(0, .ref (a 0)), (1, .int p1)] := hl
  unfold mX8_isTheorem at hm
  refine lv_iload_n hx hb dX8_isTheorem_0 rfl (lv_at hl 1 rfl) ?_
  refine lv_iconst (v := 0) hx hb dX8_isTheorem_1 (by decide) ?_
  refine lv_aload_n hx hb dX8_isTheorem_2 rfl (lv_at hl 0 rfl) ?_
  refine gfX8_theorems hx hb h_X8 hown hK hP l_f227 dX8_isTheorem_3 ?_
  refine lv_iconst (v := 1) hx hb dX8_isTheorem_6 (by decide) ?_
  refine lv_isub hx hb dX8_isTheorem_7 ?_
  obtain ⟨r1, h2, hm⟩ := ok_bind hm
  refine calS_i (As := [.int p1, .int 0, .int ((σ.1 10 0) - 1)]) (rest := []) ⟨hx, hb, hml, hown, hts⟩ (kX8_isIn l D y a t hI _ σ p1 0 ((σ.1 10 0) - 1) r1 h2) (va_cwS 3 hts (gAS aM_X8_112 aT_X8_isIn aN_X8 aC_X8_isIn) rfl rfl rfl eX8_isIn ⟨Nat.le_of_ble_eq_true rfl, Nat.le_of_ble_eq_true rfl⟩) (preS_W hK hP hF hS) rfl hl.1 rfl (Nat.le_of_ble_eq_true rfl) dX8_isTheorem_8 ⟨Nat.zero_le _, Nat.zero_le _⟩ hS (AC_le hS.1) (fun H locs hP hS hk1 => ?_)
  obtain ⟨hz, hm⟩ := ok_Z hm
  exact W.zret (v := r1) hx hb hr hz (fun T hT hW => ⟨⟨r1, σ, rfl, ⟨Option.some.inj hm, rfl⟩, by rw [posW, hT]; exact hP⟩, hS.F hT⟩) hS.2.2 dX8_isTheorem_11
theorem eX8_theorem : yX8_theorem.cls = RX8 ∧ yX8_theorem.cls ≠ "java/lang/invoke/MethodHandle" ∧ yX8_theorem.cls ≠ "java/lang/invoke/VarHandle" ∧ (parseMethodDescriptor yX8_theorem.desc).map (fun d => d.parameters.length) = some 2 := by decide +kernel
def mX8_theorem_32 (s1 : St) : Option (Int32 × St) :=
(mX8_no s1 1).bind fun ⟨r2, s4⟩ =>
some (r2, s4)
def mX8_theorem (σ : St) (p1 : Int32) (p2 : Int32) : Option (Int32 × St) :=
bnd (su σ 0 (fun _ => 0)) fun s5 =>
(mX8_isTheorem s5 p1).bind fun r6 =>
if r6 = 0 then (
mX8_theorem_32 s5)
else (
(mX8_isIn s5 p2 0 6).bind fun r9 =>
if r9 = 0 then (
mX8_theorem_32 s5)
else (
(mX8_theoremTold s5 p1 p2).bind fun ⟨r12, s14⟩ =>
some (r12, s14)))
set_option maxHeartbeats 4000000 in
set_option maxRecDepth 100000 in
theorem kX8_theorem (l : Launch) (D : va_G) (y : Nat → ClassId) (a t : Nat → Nat) (hI : AI a 30) (sz : Nat) (σ τ : St) (p1 : Int32) (p2 : Int32) (r : Int32) (hm : mX8_theorem σ p1 p2 = some (r, τ)) : Met l yX8_theorem zX8_theorem { frames := 2, cells := 1, slots := 7, locals := 43 } (va_Pc [.ref (a 0), .int p1, .int p2] (preW (wM y a) a 30 D y t σ sz)) (va_Qi (fun r' u => r' = r ∧ u = τ) (posW (wM y a) D) (AC a 30 sz)) 1 7 (AC a 30 sz) := by
  refine Met.ofW (cc := cX8_theorem) (maxL := 3) (ret := (some .int)) (by decide) rfl ?_
  intro p e s m args below meth c s₁ B hml hv
  obtain ⟨rfl, hsz, hP, hK, hF⟩ := hv
  have hx := B.exec
  have hb := B.bytes
  have hr := B.returns
  have hts := atoms_spec (ws := zX8_theorem) B.pre
  have hown : s.vm.findClass RX8 = some m.cls := findClass_of_methodNamed B.named
  have hlocks := B.notSynchronized
  subst hsz
  have l_f106 := hts _ (List.mem_cons_of_mem _ aF_X8_106)
  have h_X8 : ∀ w ∈ wsX80, w.before _ s = true := fun w hw => hts w (List.mem_cons_of_mem _ (hwX8 w hw))
  have hS : va_S (AC a 30 s.heap.size) s.heap s.heap [] := va_S.rf
  have hl := lv_entry ([.ref (a 0), .int p1, .int p2]) (n := 3) (Nat.le_of_ble_eq_true rfl)
  rw [lg_entry_eq]
  generalize (lg_sl ([.ref (a 0), .int p1, .int p2]) ++ List.replicate (3 - (lg_sl ([.ref (a 0), .int p1, .int p2])).length) Slot.unset).toArray = ls at hl ⊢
  have hl : lv_has ls 3 [(0, .ref (a 0)), (1, .int p1), (2, .int p2)] := hl
  have L_32 : ∀ (s1 : St) (H : Heap) (locs : List Loc) (ls : Array Slot), va_P D vwCl (wM y a s1) H → va_S (AC a 30 s.heap.size) s.heap H locs → lv_has ls 3 [(0, .ref (a 0))] → mX8_theorem_32 s1 = some (r, τ) → W p l e (headSpec zX8_theorem ({ frames := 2, cells := 1, slots := 7, locals := 43 })).room s m ([.ref (a 0), .int p1, .int p2] : List Value).toArray below meth c H locs 0 0 (MQ below (va_Qi (fun r' u => r' = r ∧ u = τ) (posW (wM y a) D) (AC a 30 s.heap.size)) ([.ref (a 0), .int p1, .int p2] : List Value).toArray s 1 7 (AC a 30 s.heap.size)) (F0 m 32 ls []) := by
    intro s1 H locs ls hP hS hl hm
    unfold mX8_theorem_32 at hm
    refine lv_aload_n hx hb dX8_theorem_32 rfl (lv_at hl 0 rfl) ?_
    refine lv_iconst (v := 1) hx hb dX8_theorem_33 (by decide) ?_
    obtain ⟨⟨r2, s4⟩, h3, hm⟩ := ok_bind hm
    refine calV_i (As := [.int 1]) (rest := []) ⟨hx, hb, hml, hown, hts⟩ (kX8_no l D y a t hI _ s1 s4 1 r2 h3) (cwV 1 hts (gAV aM_X8_119 aI_X8_no aS_X8_no aN_X8 aC_X8_no) rfl rfl rfl eX8_no ⟨Nat.le_of_ble_eq_true rfl, Nat.le_of_ble_eq_true rfl⟩) (preV_W (ci := 8) (q := (RX8, TX8, 42)) hK hP hF hS rfl (wM_0 y a s1)) rfl hl.1 rfl (Nat.le_of_ble_eq_true rfl) dX8_theorem_34 ⟨Nat.zero_le _, Nat.zero_le _⟩ hS (AC_le hS.1) (fun H locs hP hS hk1 => ?_)
    refine W.widen (k := 1) (n := 7) (by omega) (by omega) ?_
    exact W.iret (v := r2) hx hb hr (fun T hT hW => ⟨⟨r2, s4, rfl, ⟨congrArg Prod.fst (Option.some.inj hm), congrArg Prod.snd (Option.some.inj hm)⟩, by rw [posW, hT]; exact hP⟩, hS.F hT⟩) hS.2.2 dX8_theorem_37
  unfold mX8_theorem at hm
  refine lv_aload_n hx hb dX8_theorem_0 rfl (lv_at hl 0 rfl) ?_
  refine lv_iconst (v := 0) hx hb dX8_theorem_1 (by decide) ?_
  refine pfX8_thrown hx hb h_X8 hown hK hP hI AC_in hS l_f106 dX8_theorem_2 (fun H locs hP hS => ?_)
  generalize es5 : su σ 0 (fun _ => 0) = s5 at hP
  have hm := bnd_x es5.symm hm
  refine lv_aload_n hx hb dX8_theorem_5 rfl (lv_at hl 0 rfl) ?_
  refine lv_iload_n hx hb dX8_theorem_6 rfl (lv_at hl 1 rfl) ?_
  obtain ⟨r6, h7, hm⟩ := ok_bind hm
  refine calV_i (As := [.int p1]) (rest := []) ⟨hx, hb, hml, hown, hts⟩ (kX8_isTheorem l D y a t hI _ s5 p1 r6 h7) (cwV 1 hts (gAV aM_X8_283 aI_X8_isTheorem aS_X8_isTheorem aN_X8 aC_X8_isTheorem) rfl rfl rfl eX8_isTheorem ⟨Nat.le_of_ble_eq_true rfl, Nat.le_of_ble_eq_true rfl⟩) (preV_W (ci := 8) (q := (RX8, TX8, 42)) hK hP hF hS rfl (wM_0 y a s5)) rfl hl.1 rfl (Nat.le_of_ble_eq_true rfl) dX8_theorem_7 ⟨Nat.zero_le _, Nat.zero_le _⟩ hS (AC_le hS.1) (fun H locs hP hS hk1 => ?_)
  refine lv_if_eq (tgt := 32) hx hb dX8_theorem_10 (by decide) (fun c8 => ?_) (fun c8 => ?_)
  · have hm := (if_pos c8).symm.trans hm
    exact L_32 s5 _ _ _ hP hS (lv_sub hl [0] rfl) hm
  · have hm := (if_neg c8).symm.trans hm
    refine lv_iload_n hx hb dX8_theorem_13 rfl (lv_at hl 2 rfl) ?_
    refine lv_iconst (v := 0) hx hb dX8_theorem_14 (by decide) ?_
    refine lv_bipush (v := 6) hx hb dX8_theorem_15 (by decide) ?_
    obtain ⟨r9, h10, hm⟩ := ok_bind hm
    refine calS_i (As := [.int p2, .int 0, .int 6]) (rest := []) ⟨hx, hb, hml, hown, hts⟩ (kX8_isIn l D y a t hI _ s5 p2 0 6 r9 h10) (va_cwS 3 hts (gAS aM_X8_112 aT_X8_isIn aN_X8 aC_X8_isIn) rfl rfl rfl eX8_isIn ⟨Nat.le_of_ble_eq_true rfl, Nat.le_of_ble_eq_true rfl⟩) (preS_W hK hP hF hS) rfl hl.1 rfl (Nat.le_of_ble_eq_true rfl) dX8_theorem_17 ⟨Nat.zero_le _, Nat.zero_le _⟩ hS (AC_le hS.1) (fun H locs hP hS hk1 => ?_)
    refine lv_if_eq (tgt := 32) hx hb dX8_theorem_20 (by decide) (fun c11 => ?_) (fun c11 => ?_)
    · have hm := (if_pos c11).symm.trans hm
      exact L_32 s5 _ _ _ hP hS (lv_sub hl [0] rfl) hm
    · have hm := (if_neg c11).symm.trans hm
      refine lv_aload_n hx hb dX8_theorem_23 rfl (lv_at hl 0 rfl) ?_
      refine lv_iload_n hx hb dX8_theorem_24 rfl (lv_at hl 1 rfl) ?_
      refine lv_iload_n hx hb dX8_theorem_25 rfl (lv_at hl 2 rfl) ?_
      obtain ⟨⟨r12, s14⟩, h13, hm⟩ := ok_bind hm
      refine calV_iA (As := [.int p1, .int p2]) (rest := []) ⟨hx, hb, hml, hown, hts⟩ (kX8_theoremTold l D y a t hI _ s5 s14 p1 p2 r12 h13) (cwV 2 hts (gAV aM_X8_286 aI_X8_theoremTold aS_X8_theoremTold aN_X8 aC_X8_theoremTold) rfl rfl rfl eX8_theoremTold ⟨Nat.le_of_ble_eq_true rfl, Nat.le_of_ble_eq_true rfl⟩) (preV_W (ci := 8) (q := (RX8, TX8, 42)) hK hP hF hS rfl (wM_0 y a s5)) rfl hl.1 rfl (Nat.le_of_ble_eq_true rfl) dX8_theorem_26 ⟨Nat.le_of_ble_eq_true rfl, Nat.le_of_ble_eq_true rfl⟩ hS (AC_le hS.1) (fun H locs hP hS hk1 => ?_)
      refine W.widen (k := 1) (n := 7) (by omega) (by omega) ?_
      refine lv_goto (tgt := 37) hx hb dX8_theorem_29 (by decide) ?_
      exact W.iret (v := r12) hx hb hr (fun T hT hW => ⟨⟨r12, s14, rfl, ⟨congrArg Prod.fst (Option.some.inj hm), congrArg Prod.snd (Option.some.inj hm)⟩, by rw [posW, hT]; exact hP⟩, hS.F hT⟩) hS.2.2 dX8_theorem_37
theorem eX8_instance : yX8_instance.cls = RX8 ∧ yX8_instance.cls ≠ "java/lang/invoke/MethodHandle" ∧ yX8_instance.cls ≠ "java/lang/invoke/VarHandle" ∧ (parseMethodDescriptor yX8_instance.desc).map (fun d => d.parameters.length) = some 3 := by decide +kernel
def mX8_instance_31 (s1 : St) : Option (Int32 × St) :=
(mX8_no s1 1).bind fun ⟨r2, s4⟩ =>
some (r2, s4)
def mX8_instance (σ : St) (p1 : Int32) (p2 : Int32) (p3 : Int32) : Option (Int32 × St) :=
bnd (su σ 0 (fun _ => 0)) fun s5 =>
(mX8_isTheorem s5 p1).bind fun r6 =>
if r6 = 0 then (
mX8_instance_31 s5)
else (
(mX8_isFormula s5 p2).bind fun r9 =>
if r9 = 0 then (
mX8_instance_31 s5)
else (
(mX8_isIn s5 p3 0 7).bind fun r12 =>
if r12 = 0 then (
mX8_instance_31 s5)
else (
(mX8_clearStands s5).bind fun s16 =>
chkI p1 16 (
(mX8_becomes s16 (s16.1 29 p1.toNatClampNeg) p2).bind fun ⟨r17, s19⟩ =>
if r17 = 0 then (
some ((-1), s19))
else (
chkI p1 16 (
chkI (s19.1 29 p1.toNatClampNeg) 240 (
if (((s19.1 18 (s19.1 29 p1.toNatClampNeg).toNatClampNeg) >>> (p3 &&& 31)) &&& 1) = 0 then (
some ((-1), s19))
else (
(mX8_find s19 0 p3 (-1)).bind fun r22 =>
chkI r22 240 (
some (s19.1 39 r22.toNatClampNeg, s19))))))))))
set_option maxHeartbeats 4000000 in
set_option maxRecDepth 100000 in
theorem kX8_instance (l : Launch) (D : va_G) (y : Nat → ClassId) (a t : Nat → Nat) (hI : AI a 30) (sz : Nat) (σ τ : St) (p1 : Int32) (p2 : Int32) (p3 : Int32) (r : Int32) (hm : mX8_instance σ p1 p2 p3 = some (r, τ)) : Met l yX8_instance zX8_instance { frames := 257, cells := 0, slots := 0, locals := 5911 } (va_Pc [.ref (a 0), .int p1, .int p2, .int p3] (preW (wM y a) a 30 D y t σ sz)) (va_Qi (fun r' u => r' = r ∧ u = τ) (posW (wM y a) D) (AC a 30 sz)) 0 0 (AC a 30 sz) := by
  refine Met.ofW (cc := cX8_instance) (maxL := 4) (ret := (some .int)) (by decide) rfl ?_
  intro p e s m args below meth c s₁ B hml hv
  obtain ⟨rfl, hsz, hP, hK, hF⟩ := hv
  have hx := B.exec
  have hb := B.bytes
  have hr := B.returns
  have hts := atoms_spec (ws := zX8_instance) B.pre
  have hown : s.vm.findClass RX8 = some m.cls := findClass_of_methodNamed B.named
  have hlocks := B.notSynchronized
  subst hsz
  have l_f106 := hts _ (List.mem_cons_of_mem _ aF_X8_106)
  have l_f67 := hts _ (List.mem_cons_of_mem _ aF_X8_67)
  have l_f29 := hts _ (List.mem_cons_of_mem _ aF_X8_29)
  have l_f97 := hts _ (List.mem_cons_of_mem _ aF_X8_97)
  have h_X8 : ∀ w ∈ wsX80, w.before _ s = true := fun w hw => hts w (List.mem_cons_of_mem _ (hwX8 w hw))
  have hS : va_S (AC a 30 s.heap.size) s.heap s.heap [] := va_S.rf
  have hl := lv_entry ([.ref (a 0), .int p1, .int p2, .int p3]) (n := 4) (Nat.le_of_ble_eq_true rfl)
  rw [lg_entry_eq]
  generalize (lg_sl ([.ref (a 0), .int p1, .int p2, .int p3]) ++ List.replicate (4 - (lg_sl ([.ref (a 0), .int p1, .int p2, .int p3])).length) Slot.unset).toArray = ls at hl ⊢
  have hl : lv_has ls 4 [(0, .ref (a 0)), (1, .int p1), (2, .int p2), (3, .int p3)] := hl
  have L_31 : ∀ (s1 : St) (H : Heap) (locs : List Loc) (ls : Array Slot), va_P D vwCl (wM y a s1) H → va_S (AC a 30 s.heap.size) s.heap H locs → lv_has ls 4 [(0, .ref (a 0))] → mX8_instance_31 s1 = some (r, τ) → W p l e (headSpec zX8_instance ({ frames := 257, cells := 0, slots := 0, locals := 5911 })).room s m ([.ref (a 0), .int p1, .int p2, .int p3] : List Value).toArray below meth c H locs 0 0 (MQ below (va_Qi (fun r' u => r' = r ∧ u = τ) (posW (wM y a) D) (AC a 30 s.heap.size)) ([.ref (a 0), .int p1, .int p2, .int p3] : List Value).toArray s 0 0 (AC a 30 s.heap.size)) (F0 m 31 ls []) := by
    intro s1 H locs ls hP hS hl hm
    unfold mX8_instance_31 at hm
    refine lv_aload_n hx hb dX8_instance_31 rfl (lv_at hl 0 rfl) ?_
    refine lv_iconst (v := 1) hx hb dX8_instance_32 (by decide) ?_
    obtain ⟨⟨r2, s4⟩, h3, hm⟩ := ok_bind hm
    refine calV_i (As := [.int 1]) (rest := []) ⟨hx, hb, hml, hown, hts⟩ (kX8_no l D y a t hI _ s1 s4 1 r2 h3) (cwV 1 hts (gAV aM_X8_119 aI_X8_no aS_X8_no aN_X8 aC_X8_no) rfl rfl rfl eX8_no ⟨Nat.le_of_ble_eq_true rfl, Nat.le_of_ble_eq_true rfl⟩) (preV_W (ci := 8) (q := (RX8, TX8, 42)) hK hP hF hS rfl (wM_0 y a s1)) rfl hl.1 rfl (Nat.le_of_ble_eq_true rfl) dX8_instance_33 ⟨Nat.zero_le _, Nat.zero_le _⟩ hS (AC_le hS.1) (fun H locs hP hS hk1 => ?_)
    exact W.iret (v := r2) hx hb hr (fun T hT hW => ⟨⟨r2, s4, rfl, ⟨congrArg Prod.fst (Option.some.inj hm), congrArg Prod.snd (Option.some.inj hm)⟩, by rw [posW, hT]; exact hP⟩, hS.F hT⟩) hS.2.2 dX8_instance_36
  unfold mX8_instance at hm
  refine lv_aload_n hx hb dX8_instance_0 rfl (lv_at hl 0 rfl) ?_
  refine lv_iconst (v := 0) hx hb dX8_instance_1 (by decide) ?_
  refine pfX8_thrown hx hb h_X8 hown hK hP hI AC_in hS l_f106 dX8_instance_2 (fun H locs hP hS => ?_)
  generalize es5 : su σ 0 (fun _ => 0) = s5 at hP
  have hm := bnd_x es5.symm hm
  refine lv_aload_n hx hb dX8_instance_5 rfl (lv_at hl 0 rfl) ?_
  refine lv_iload_n hx hb dX8_instance_6 rfl (lv_at hl 1 rfl) ?_
  obtain ⟨r6, h7, hm⟩ := ok_bind hm
  refine calV_i (As := [.int p1]) (rest := []) ⟨hx, hb, hml, hown, hts⟩ (kX8_isTheorem l D y a t hI _ s5 p1 r6 h7) (cwV 1 hts (gAV aM_X8_283 aI_X8_isTheorem aS_X8_isTheorem aN_X8 aC_X8_isTheorem) rfl rfl rfl eX8_isTheorem ⟨Nat.le_of_ble_eq_true rfl, Nat.le_of_ble_eq_true rfl⟩) (preV_W (ci := 8) (q := (RX8, TX8, 42)) hK hP hF hS rfl (wM_0 y a s5)) rfl hl.1 rfl (Nat.le_of_ble_eq_true rfl) dX8_instance_7 ⟨Nat.zero_le _, Nat.zero_le _⟩ hS (AC_le hS.1) (fun H locs hP hS hk1 => ?_)
  refine lv_if_eq (tgt := 31) hx hb dX8_instance_10 (by decide) (fun c8 => ?_) (fun c8 => ?_)
  · have hm := (if_pos c8).symm.trans hm
    exact L_31 s5 _ _ _ hP hS (lv_sub hl [0] rfl) hm
  · have hm := (if_neg c8).symm.trans hm
    refine lv_aload_n hx hb dX8_instance_13 rfl (lv_at hl 0 rfl) ?_
    refine lv_iload_n hx hb dX8_instance_14 rfl (lv_at hl 2 rfl) ?_
    obtain ⟨r9, h10, hm⟩ := ok_bind hm
    refine calV_i (As := [.int p2]) (rest := []) ⟨hx, hb, hml, hown, hts⟩ (kX8_isFormula l D y a t hI _ s5 p2 r9 h10) (cwV 1 hts (gAV aM_X8_171 aI_X8_isFormula aS_X8_isFormula aN_X8 aC_X8_isFormula) rfl rfl rfl eX8_isFormula ⟨Nat.le_of_ble_eq_true rfl, Nat.le_of_ble_eq_true rfl⟩) (preV_W (ci := 8) (q := (RX8, TX8, 42)) hK hP hF hS rfl (wM_0 y a s5)) rfl hl.1 rfl (Nat.le_of_ble_eq_true rfl) dX8_instance_15 ⟨Nat.zero_le _, Nat.zero_le _⟩ hS (AC_le hS.1) (fun H locs hP hS hk1 => ?_)
    refine lv_if_eq (tgt := 31) hx hb dX8_instance_18 (by decide) (fun c11 => ?_) (fun c11 => ?_)
    · have hm := (if_pos c11).symm.trans hm
      exact L_31 s5 _ _ _ hP hS (lv_sub hl [0] rfl) hm
    · have hm := (if_neg c11).symm.trans hm
      refine lv_iload_n hx hb dX8_instance_21 rfl (lv_at hl 3 rfl) ?_
      refine lv_iconst (v := 0) hx hb dX8_instance_22 (by decide) ?_
      refine lv_bipush (v := 7) hx hb dX8_instance_23 (by decide) ?_
      obtain ⟨r12, h13, hm⟩ := ok_bind hm
      refine calS_i (As := [.int p3, .int 0, .int 7]) (rest := []) ⟨hx, hb, hml, hown, hts⟩ (kX8_isIn l D y a t hI _ s5 p3 0 7 r12 h13) (va_cwS 3 hts (gAS aM_X8_112 aT_X8_isIn aN_X8 aC_X8_isIn) rfl rfl rfl eX8_isIn ⟨Nat.le_of_ble_eq_true rfl, Nat.le_of_ble_eq_true rfl⟩) (preS_W hK hP hF hS) rfl hl.1 rfl (Nat.le_of_ble_eq_true rfl) dX8_instance_25 ⟨Nat.zero_le _, Nat.zero_le _⟩ hS (AC_le hS.1) (fun H locs hP hS hk1 => ?_)
      refine lv_if_ne (tgt := 37) hx hb dX8_instance_28 (by decide) (fun c14 => ?_) (fun c14 => ?_)
      · have hm := (if_neg c14).symm.trans hm
        refine lv_aload_n hx hb dX8_instance_37 rfl (lv_at hl 0 rfl) ?_
        obtain ⟨s16, h15, hm⟩ := ok_bind hm
        refine calV_v (As := []) (rest := []) ⟨hx, hb, hml, hown, hts⟩ (kX8_clearStands l D y a t hI _ s5 s16  h15) (cwV 0 hts (gAV aM_X8_256 aI_X8_clearStands aS_X8_clearStands aN_X8 aC_X8_clearStands) rfl rfl rfl eX8_clearStands ⟨Nat.le_of_ble_eq_true rfl, Nat.le_of_ble_eq_true rfl⟩) (preV_W (ci := 8) (q := (RX8, TX8, 42)) hK hP hF hS rfl (wM_0 y a s5)) rfl hl.1 rfl (Nat.le_of_ble_eq_true rfl) dX8_instance_38 ⟨Nat.zero_le _, Nat.zero_le _⟩ hS (AC_le hS.1) (fun H locs hP hS hk1 => ?_)
        refine lv_aload_n hx hb dX8_instance_41 rfl (lv_at hl 0 rfl) ?_
        refine lv_aload_n hx hb dX8_instance_42 rfl (lv_at hl 0 rfl) ?_
        refine gfX8_conclusions hx hb h_X8 hown hK hP l_f67 dX8_instance_43 ?_
        refine lv_iload_n hx hb dX8_instance_46 rfl (lv_at hl 1 rfl) ?_
        obtain ⟨hi, hm⟩ := ok_I hm
        refine ldM_17 hx hb hK hP hi dX8_instance_47 ?_
        refine lv_iload_n hx hb dX8_instance_48 rfl (lv_at hl 2 rfl) ?_
        obtain ⟨⟨r17, s19⟩, h18, hm⟩ := ok_bind hm
        refine calV_i (As := [.int (s16.1 29 p1.toNatClampNeg), .int p2]) (rest := []) ⟨hx, hb, hml, hown, hts⟩ (kX8_becomes l D y a t hI _ s16 s19 (s16.1 29 p1.toNatClampNeg) p2 r17 h18) (cwV 2 hts (gAV aM_X8_236 aI_X8_becomes aS_X8_becomes aN_X8 aC_X8_becomes) rfl rfl rfl eX8_becomes ⟨Nat.le_of_ble_eq_true rfl, Nat.le_of_ble_eq_true rfl⟩) (preV_W (ci := 8) (q := (RX8, TX8, 42)) hK hP hF hS rfl (wM_0 y a s16)) rfl hl.1 rfl (Nat.le_of_ble_eq_true rfl) dX8_instance_49 ⟨Nat.zero_le _, Nat.zero_le _⟩ hS (AC_le hS.1) (fun H locs hP hS hk1 => ?_)
        refine lv_if_eq (tgt := 73) hx hb dX8_instance_52 (by decide) (fun c20 => ?_) (fun c20 => ?_)
        · have hm := (if_pos c20).symm.trans hm
          refine lv_iconst (v := (-1)) hx hb dX8_instance_73 (by decide) ?_
          exact W.iret (v := (-1)) hx hb hr (fun T hT hW => ⟨⟨(-1), s19, rfl, ⟨congrArg Prod.fst (Option.some.inj hm), congrArg Prod.snd (Option.some.inj hm)⟩, by rw [posW, hT]; exact hP⟩, hS.F hT⟩) hS.2.2 dX8_instance_74
        · have hm := (if_neg c20).symm.trans hm
          refine lv_aload_n hx hb dX8_instance_55 rfl (lv_at hl 0 rfl) ?_
          refine gfX8_letters hx hb h_X8 hown hK hP l_f29 dX8_instance_56 ?_
          refine lv_aload_n hx hb dX8_instance_59 rfl (lv_at hl 0 rfl) ?_
          refine gfX8_conclusions hx hb h_X8 hown hK hP l_f67 dX8_instance_60 ?_
          refine lv_iload_n hx hb dX8_instance_63 rfl (lv_at hl 1 rfl) ?_
          obtain ⟨hi, hm⟩ := ok_I hm
          refine ldM_17 hx hb hK hP hi dX8_instance_64 ?_
          obtain ⟨hi, hm⟩ := ok_I hm
          refine ldM_6 hx hb hK hP hi dX8_instance_65 ?_
          refine lv_iload_n hx hb dX8_instance_66 rfl (lv_at hl 3 rfl) ?_
          refine lv_ishr hx hb dX8_instance_67 ?_
          refine lv_iconst (v := 1) hx hb dX8_instance_68 (by decide) ?_
          refine lv_iand hx hb dX8_instance_69 ?_
          refine lv_if_ne (tgt := 75) hx hb dX8_instance_70 (by decide) (fun c21 => ?_) (fun c21 => ?_)
          · have hm := (if_neg c21).symm.trans hm
            refine lv_aload_n hx hb dX8_instance_75 rfl (lv_at hl 0 rfl) ?_
            refine gfX8_stands hx hb h_X8 hown hK hP l_f97 dX8_instance_76 ?_
            refine lv_aload_n hx hb dX8_instance_79 rfl (lv_at hl 0 rfl) ?_
            refine lv_iconst (v := 0) hx hb dX8_instance_80 (by decide) ?_
            refine lv_iload_n hx hb dX8_instance_81 rfl (lv_at hl 3 rfl) ?_
            refine lv_iconst (v := (-1)) hx hb dX8_instance_82 (by decide) ?_
            obtain ⟨r22, h23, hm⟩ := ok_bind hm
            refine calV_i (As := [.int 0, .int p3, .int (-1)]) (rest := [.ref (a 27)]) ⟨hx, hb, hml, hown, hts⟩ (kX8_find l D y a t hI _ s19 0 p3 (-1) r22 h23) (cwV 3 hts (gAV aM_X8_123 aI_X8_find aS_X8_find aN_X8 aC_X8_find) rfl rfl rfl eX8_find ⟨Nat.le_of_ble_eq_true rfl, Nat.le_of_ble_eq_true rfl⟩) (preV_W (ci := 8) (q := (RX8, TX8, 42)) hK hP hF hS rfl (wM_0 y a s19)) rfl hl.1 rfl (Nat.le_of_ble_eq_true rfl) dX8_instance_83 ⟨Nat.zero_le _, Nat.zero_le _⟩ hS (AC_le hS.1) (fun H locs hP hS hk1 => ?_)
            obtain ⟨hi, hm⟩ := ok_I hm
            refine ldM_27 hx hb hK hP hi dX8_instance_86 ?_
            exact W.iret (v := s19.1 39 r22.toNatClampNeg) hx hb hr (fun T hT hW => ⟨⟨s19.1 39 r22.toNatClampNeg, s19, rfl, ⟨congrArg Prod.fst (Option.some.inj hm), congrArg Prod.snd (Option.some.inj hm)⟩, by rw [posW, hT]; exact hP⟩, hS.F hT⟩) hS.2.2 dX8_instance_87
          · have hm := (if_pos c21).symm.trans hm
            refine lv_iconst (v := (-1)) hx hb dX8_instance_73 (by decide) ?_
            exact W.iret (v := (-1)) hx hb hr (fun T hT hW => ⟨⟨(-1), s19, rfl, ⟨congrArg Prod.fst (Option.some.inj hm), congrArg Prod.snd (Option.some.inj hm)⟩, by rw [posW, hT]; exact hP⟩, hS.F hT⟩) hS.2.2 dX8_instance_74
      · have hm := (if_pos c14).symm.trans hm
        exact L_31 s5 _ _ _ hP hS (lv_sub hl [0] rfl) hm
theorem eX8_thrift : yX8_thrift.cls = RX8 ∧ yX8_thrift.cls ≠ "java/lang/invoke/MethodHandle" ∧ yX8_thrift.cls ≠ "java/lang/invoke/VarHandle" ∧ (parseMethodDescriptor yX8_thrift.desc).map (fun d => d.parameters.length) = some 0 := by decide +kernel
def mX8_thrift_43 (s3 : St) (v1 : Int32) (v2 : Int32) : Option (UInt64 × St) :=
if (s3.1 10 0) = 0 then (
some (FP.dconst1, s3))
else (
chkN (FP.ddiv (FP.i2d v2) (FP.i2d v1)) (
some (FP.ddiv (FP.i2d v2) (FP.i2d v1), s3)))
def bX8_thrift_11 (kh11 : St → Int32 → Int32 → Int32 → Option (UInt64 × St)) (s8 : St) (v5 : Int32) (v6 : Int32) (v7 : Int32) : Option (UInt64 × St) :=
if (s8.1 10 0) ≤ v7 then (
mX8_thrift_43 s8 v5 v6)
else (
chkI v7 16 (
bnd (v5 + (s8.1 32 v7.toNatClampNeg)) fun x10 =>
chkI v7 16 (
bnd (v6 + (s8.1 33 v7.toNatClampNeg)) fun x11 =>
bnd (v7 + 1) fun x12 =>
kh11 s8 x10 x11 x12)))
abbrev mX8_thrift_11 (n : Nat) : St → Int32 → Int32 → Int32 → Option (UInt64 × St) := fx (fun _ _ _ _ => none) (bX8_thrift_11) n
def mX8_thrift (σ : St) : Option (UInt64 × St) :=
bnd (su σ 0 (fun _ => 0)) fun s13 =>
mX8_thrift_11 NF s13 0 0 0
set_option maxHeartbeats 4000000 in
set_option maxRecDepth 100000 in
theorem kX8_thrift (l : Launch) (D : va_G) (y : Nat → ClassId) (a t : Nat → Nat) (hI : AI a 30) (sz : Nat) (σ τ : St) (r : UInt64) (hm : mX8_thrift σ = some (r, τ)) : Met l yX8_thrift zX8_thrift { frames := 0, cells := 0, slots := 0, locals := 0 } (va_Pc [.ref (a 0)] (preW (wM y a) a 30 D y t σ sz)) (va_Qd (fun r' u => r' = r ∧ u = τ) (posW (wM y a) D) (AC a 30 sz)) 0 0 (AC a 30 sz) := by
  refine Met.ofW (cc := cX8_thrift) (maxL := 4) (ret := (some .double)) (by decide) rfl ?_
  intro p e s m args below meth c s₁ B hml hv
  obtain ⟨rfl, hsz, hP, hK, hF⟩ := hv
  have hx := B.exec
  have hb := B.bytes
  have hr := B.returns
  have hts := atoms_spec (ws := zX8_thrift) B.pre
  have hown : s.vm.findClass RX8 = some m.cls := findClass_of_methodNamed B.named
  have hlocks := B.notSynchronized
  subst hsz
  have l_f106 := hts _ (List.mem_cons_of_mem _ aF_X8_106)
  have l_f227 := hts _ (List.mem_cons_of_mem _ aF_X8_227)
  have l_f76 := hts _ (List.mem_cons_of_mem _ aF_X8_76)
  have l_f79 := hts _ (List.mem_cons_of_mem _ aF_X8_79)
  have h_X8 : ∀ w ∈ wsX80, w.before _ s = true := fun w hw => hts w (List.mem_cons_of_mem _ (hwX8 w hw))
  have hS : va_S (AC a 30 s.heap.size) s.heap s.heap [] := va_S.rf
  have hl := lv_entry ([.ref (a 0)]) (n := 4) (Nat.le_of_ble_eq_true rfl)
  rw [lg_entry_eq]
  generalize (lg_sl ([.ref (a 0)]) ++ List.replicate (4 - (lg_sl ([.ref (a 0)])).length) Slot.unset).toArray = ls at hl ⊢
  have hl : lv_has ls 4 [(0, .ref (a 0))] := hl
  have L_43 : ∀ (s3 : St) (v1 : Int32) (v2 : Int32) (H : Heap) (locs : List Loc) (ls : Array Slot), va_P D vwCl (wM y a s3) H → va_S (AC a 30 s.heap.size) s.heap H locs → lv_has ls 4 [(0, .ref (a 0)), (1, .int v1), (2, .int v2)] → mX8_thrift_43 s3 v1 v2 = some (r, τ) → W p l e (headSpec zX8_thrift ({ frames := 0, cells := 0, slots := 0, locals := 0 })).room s m ([.ref (a 0)] : List Value).toArray below meth c H locs 0 0 (MQ below (va_Qd (fun r' u => r' = r ∧ u = τ) (posW (wM y a) D) (AC a 30 s.heap.size)) ([.ref (a 0)] : List Value).toArray s 0 0 (AC a 30 s.heap.size)) (F0 m 43 ls []) := by
    intro s3 v1 v2 H locs ls hP hS hl hm
    unfold mX8_thrift_43 at hm
    refine lv_aload_n hx hb dX8_thrift_43 rfl (lv_at hl 0 rfl) ?_
    refine gfX8_theorems hx hb h_X8 hown hK hP l_f227 dX8_thrift_44 ?_
    refine lv_if_ne (tgt := 54) hx hb dX8_thrift_47 (by decide) (fun c4 => ?_) (fun c4 => ?_)
    · have hm := (if_neg c4).symm.trans hm
      refine lv_iload_n hx hb dX8_thrift_54 rfl (lv_at hl 2 rfl) ?_
      refine lv_i2d hx hb dX8_thrift_55 ?_
      refine lv_iload_n hx hb dX8_thrift_56 rfl (lv_at hl 1 rfl) ?_
      refine lv_i2d hx hb dX8_thrift_57 ?_
      obtain ⟨hn, hm⟩ := ok_N hm
      refine lv_ddiv hx hb dX8_thrift_58 hn ?_
      exact W.dret (v := FP.ddiv (FP.i2d v2) (FP.i2d v1)) hx hb hr (fun T hT hW => ⟨⟨FP.ddiv (FP.i2d v2) (FP.i2d v1), s3, rfl, ⟨congrArg Prod.fst (Option.some.inj hm), congrArg Prod.snd (Option.some.inj hm)⟩, by rw [posW, hT]; exact hP⟩, hS.F hT⟩) hS.2.2 dX8_thrift_59
    · have hm := (if_pos c4).symm.trans hm
      refine lv_dconst1 hx hb dX8_thrift_50 ?_
      refine lv_goto (tgt := 59) hx hb dX8_thrift_51 (by decide) ?_
      exact W.dret (v := FP.dconst1) hx hb hr (fun T hT hW => ⟨⟨FP.dconst1, s3, rfl, ⟨congrArg Prod.fst (Option.some.inj hm), congrArg Prod.snd (Option.some.inj hm)⟩, by rw [posW, hT]; exact hP⟩, hS.F hT⟩) hS.2.2 dX8_thrift_59
  have L_11 : ∀ (n : Nat) (s8 : St) (v5 : Int32) (v6 : Int32) (v7 : Int32) (H : Heap) (locs : List Loc) (ls : Array Slot), va_P D vwCl (wM y a s8) H → va_S (AC a 30 s.heap.size) s.heap H locs → lv_has ls 4 [(0, .ref (a 0)), (1, .int v5), (2, .int v6), (3, .int v7)] → mX8_thrift_11 n s8 v5 v6 v7 = some (r, τ) → W p l e (headSpec zX8_thrift ({ frames := 0, cells := 0, slots := 0, locals := 0 })).room s m ([.ref (a 0)] : List Value).toArray below meth c H locs 0 0 (MQ below (va_Qd (fun r' u => r' = r ∧ u = τ) (posW (wM y a) D) (AC a 30 s.heap.size)) ([.ref (a 0)] : List Value).toArray s 0 0 (AC a 30 s.heap.size)) (F0 m 11 ls []) := by
    intro n
    induction n with
    | zero =>
      intro s8 v5 v6 v7 H locs ls hP hS hl hm
      exact absurd (show (none : Option (UInt64 × St)) = some (r, τ) from hm) (by intro h; cases h)
    | succ n ih11 =>
      obtain ⟨kh11, ekh11⟩ : ∃ z, z = mX8_thrift_11 n := ⟨_, rfl⟩
      have ih11 : ∀ (s8 : St) (v5 : Int32) (v6 : Int32) (v7 : Int32) (H : Heap) (locs : List Loc) (ls : Array Slot), va_P D vwCl (wM y a s8) H → va_S (AC a 30 s.heap.size) s.heap H locs → lv_has ls 4 [(0, .ref (a 0)), (1, .int v5), (2, .int v6), (3, .int v7)] → kh11 s8 v5 v6 v7 = some (r, τ) → W p l e (headSpec zX8_thrift ({ frames := 0, cells := 0, slots := 0, locals := 0 })).room s m ([.ref (a 0)] : List Value).toArray below meth c H locs 0 0 (MQ below (va_Qd (fun r' u => r' = r ∧ u = τ) (posW (wM y a) D) (AC a 30 s.heap.size)) ([.ref (a 0)] : List Value).toArray s 0 0 (AC a 30 s.heap.size)) (F0 m 11 ls []) := by rw [ekh11]; exact ih11
      intro s8 v5 v6 v7 H locs ls hP hS hl hm
      have hm : bX8_thrift_11 (mX8_thrift_11 n) s8 v5 v6 v7 = some (r, τ) := hm
      rw [← ekh11] at hm
      unfold bX8_thrift_11 at hm
      refine lv_iload_n hx hb dX8_thrift_11 rfl (lv_at hl 3 rfl) ?_
      refine lv_aload_n hx hb dX8_thrift_12 rfl (lv_at hl 0 rfl) ?_
      refine gfX8_theorems hx hb h_X8 hown hK hP l_f227 dX8_thrift_13 ?_
      refine lv_icmp_ge (tgt := 43) hx hb dX8_thrift_16 (by decide) (fun c9 => ?_) (fun c9 => ?_)
      · have hm := (if_pos c9).symm.trans hm
        exact L_43 s8 v5 v6 _ _ _ hP hS (lv_sub hl [0, 1, 2] rfl) hm
      · have hm := (if_neg c9).symm.trans hm
        refine lv_iload_n hx hb dX8_thrift_19 rfl (lv_at hl 1 rfl) ?_
        refine lv_aload_n hx hb dX8_thrift_20 rfl (lv_at hl 0 rfl) ?_
        refine gfX8_proofLines hx hb h_X8 hown hK hP l_f76 dX8_thrift_21 ?_
        refine lv_iload_n hx hb dX8_thrift_24 rfl (lv_at hl 3 rfl) ?_
        obtain ⟨hi, hm⟩ := ok_I hm
        refine ldM_20 hx hb hK hP hi dX8_thrift_25 ?_
        refine lv_iadd hx hb dX8_thrift_26 ?_
        refine lv_topi (fun x10 ex10 => ?_)
        have hm := bnd_x ex10 hm
        refine lv_istore_n (lv' := [(1, .int x10), (0, .ref (a 0)), (2, .int v6), (3, .int v7)]) hx hb dX8_thrift_27 rfl hl (by decide) rfl (fun ls hl => ?_)
        refine lv_iload_n hx hb dX8_thrift_28 rfl (lv_at hl 2 rfl) ?_
        refine lv_aload_n hx hb dX8_thrift_29 rfl (lv_at hl 1 rfl) ?_
        refine gfX8_proofNeeded hx hb h_X8 hown hK hP l_f79 dX8_thrift_30 ?_
        refine lv_iload_n hx hb dX8_thrift_33 rfl (lv_at hl 3 rfl) ?_
        obtain ⟨hi, hm⟩ := ok_I hm
        refine ldM_21 hx hb hK hP hi dX8_thrift_34 ?_
        refine lv_iadd hx hb dX8_thrift_35 ?_
        refine lv_topi (fun x11 ex11 => ?_)
        have hm := bnd_x ex11 hm
        refine lv_istore_n (lv' := [(2, .int x11), (1, .int x10), (0, .ref (a 0)), (3, .int v7)]) hx hb dX8_thrift_36 rfl hl (by decide) rfl (fun ls hl => ?_)
        obtain ⟨x12, ex12⟩ : ∃ z : Int32, z = v7 + 1 := ⟨_, rfl⟩
        have hm := bnd_x ex12 hm
        refine lv_iinc (v := x12) (lv' := [(3, .int x12), (2, .int x11), (1, .int x10), (0, .ref (a 0))]) hx hb dX8_thrift_37 hl (k := 3) rfl (by rw [ex12]; rfl) (by decide) rfl (fun ls hl => ?_)
        refine lv_goto (tgt := 11) hx hb dX8_thrift_40 (by decide) ?_
        exact ih11 s8 x10 x11 x12 _ _ _ hP hS (lv_sub hl [3, 2, 1, 0] rfl) hm
  unfold mX8_thrift at hm
  refine lv_aload_n hx hb dX8_thrift_0 rfl (lv_at hl 0 rfl) ?_
  refine lv_iconst (v := 0) hx hb dX8_thrift_1 (by decide) ?_
  refine pfX8_thrown hx hb h_X8 hown hK hP hI AC_in hS l_f106 dX8_thrift_2 (fun H locs hP hS => ?_)
  generalize es13 : su σ 0 (fun _ => 0) = s13 at hP
  have hm := bnd_x es13.symm hm
  refine lv_iconst (v := 0) hx hb dX8_thrift_5 (by decide) ?_
  refine lv_istore_n (lv' := [(1, .int 0), (0, .ref (a 0))]) hx hb dX8_thrift_6 rfl hl (by decide) rfl (fun ls hl => ?_)
  refine lv_iconst (v := 0) hx hb dX8_thrift_7 (by decide) ?_
  refine lv_istore_n (lv' := [(2, .int 0), (1, .int 0), (0, .ref (a 0))]) hx hb dX8_thrift_8 rfl hl (by decide) rfl (fun ls hl => ?_)
  refine lv_iconst (v := 0) hx hb dX8_thrift_9 (by decide) ?_
  refine lv_istore_n (lv' := [(3, .int 0), (2, .int 0), (1, .int 0), (0, .ref (a 0))]) hx hb dX8_thrift_10 rfl hl (by decide) rfl (fun ls hl => ?_)
  exact L_11 NF s13 0 0 0 _ _ _ hP hS (lv_sub hl [3, 2, 1, 0] rfl) hm
theorem eX8_digest : yX8_digest.cls = RX8 ∧ yX8_digest.cls ≠ "java/lang/invoke/MethodHandle" ∧ yX8_digest.cls ≠ "java/lang/invoke/VarHandle" ∧ (parseMethodDescriptor yX8_digest.desc).map (fun d => d.parameters.length) = some 0 := by decide +kernel
def bX8_digest_232 (kh232 : St → Int64 → Int32 → Option (Int64 × St)) (s3 : St) (v1 : Int64) (v2 : Int32) : Option (Int64 × St) :=
if (s3.1 4 0) ≤ v2 then (
some (v1, s3))
else (
chkI v2 400 (
bnd ((v1 * 31) + ((s3.1 14 v2.toNatClampNeg).toInt64)) fun x5 =>
bnd (v2 + 1) fun x6 =>
kh232 s3 x5 x6))
abbrev mX8_digest_232 (n : Nat) : St → Int64 → Int32 → Option (Int64 × St) := fx (fun _ _ _ => none) (bX8_digest_232) n
def mX8_digest_230 (s8 : St) (v7 : Int64) : Option (Int64 × St) :=
mX8_digest_232 NF s8 v7 0
def mX8_digest_224 (kh185 : St → Int64 → Int32 → Option (Int64 × St)) (s11 : St) (v9 : Int64) (v10 : Int32) : Option (Int64 × St) :=
bnd (v10 + 1) fun x12 =>
kh185 s11 v9 x12
def bX8_digest_196 (kh185 : St → Int64 → Int32 → Option (Int64 × St)) (kh196 : St → Int64 → Int32 → Int32 → Option (Int64 × St)) (s16 : St) (v13 : Int64) (v14 : Int32) (v15 : Int32) : Option (Int64 × St) :=
if 7 ≤ v15 then (
mX8_digest_224 kh185 s16 v13 v14)
else (
(mX8_theoremTold s16 v14 v15).bind fun ⟨r18, s20⟩ =>
bnd ((v13 * 31) + r18.toInt64) fun x21 =>
bnd (v15 + 1) fun x22 =>
kh196 s20 x21 v14 x22)
abbrev mX8_digest_196 (kh185 : St → Int64 → Int32 → Option (Int64 × St)) (n : Nat) : St → Int64 → Int32 → Int32 → Option (Int64 × St) := fx (fun _ _ _ _ => none) (bX8_digest_196 kh185) n
def bX8_digest_185 (kh185 : St → Int64 → Int32 → Option (Int64 × St)) (s25 : St) (v23 : Int64) (v24 : Int32) : Option (Int64 × St) :=
if (s25.1 10 0) ≤ v24 then (
mX8_digest_230 s25 v23)
else (
mX8_digest_196 kh185 8 s25 v23 v24 0)
abbrev mX8_digest_185 (n : Nat) : St → Int64 → Int32 → Option (Int64 × St) := fx (fun _ _ _ => none) (bX8_digest_185) n
def mX8_digest_183 (s28 : St) (v27 : Int64) : Option (Int64 × St) :=
mX8_digest_185 17 s28 v27 0
def mX8_digest_177 (kh139 : St → Int64 → Int32 → Option (Int64 × St)) (s31 : St) (v29 : Int64) (v30 : Int32) : Option (Int64 × St) :=
bnd (v30 + 1) fun x32 =>
kh139 s31 v29 x32
def bX8_digest_150 (kh139 : St → Int64 → Int32 → Option (Int64 × St)) (kh150 : St → Int64 → Int32 → Int32 → Option (Int64 × St)) (s36 : St) (v33 : Int64) (v34 : Int32) (v35 : Int32) : Option (Int64 × St) :=
if 4 ≤ v35 then (
mX8_digest_177 kh139 s36 v33 v34)
else (
(mX8_boxTold s36 v34 v35).bind fun r38 =>
bnd ((v33 * 31) + r38.toInt64) fun x40 =>
bnd (v35 + 1) fun x41 =>
kh150 s36 x40 v34 x41)
abbrev mX8_digest_150 (kh139 : St → Int64 → Int32 → Option (Int64 × St)) (n : Nat) : St → Int64 → Int32 → Int32 → Option (Int64 × St) := fx (fun _ _ _ _ => none) (bX8_digest_150 kh139) n
def bX8_digest_139 (kh139 : St → Int64 → Int32 → Option (Int64 × St)) (s44 : St) (v42 : Int64) (v43 : Int32) : Option (Int64 × St) :=
if (s44.1 7 0) ≤ v43 then (
mX8_digest_183 s44 v42)
else (
mX8_digest_150 kh139 NF s44 v42 v43 0)
abbrev mX8_digest_139 (n : Nat) : St → Int64 → Int32 → Option (Int64 × St) := fx (fun _ _ _ => none) (bX8_digest_139) n
def mX8_digest_137 (s47 : St) (v46 : Int64) : Option (Int64 × St) :=
mX8_digest_139 NF s47 v46 0
def mX8_digest_131 (kh92 : St → Int64 → Int32 → Option (Int64 × St)) (s50 : St) (v48 : Int64) (v49 : Int32) : Option (Int64 × St) :=
bnd (v49 + 1) fun x51 =>
kh92 s50 v48 x51
def bX8_digest_103 (kh92 : St → Int64 → Int32 → Option (Int64 × St)) (kh103 : St → Int64 → Int32 → Int32 → Option (Int64 × St)) (s55 : St) (v52 : Int64) (v53 : Int32) (v54 : Int32) : Option (Int64 × St) :=
if 8 ≤ v54 then (
mX8_digest_131 kh92 s55 v52 v53)
else (
(mX8_lineTold s55 v53 v54).bind fun ⟨r57, s59⟩ =>
bnd ((v52 * 31) + r57.toInt64) fun x60 =>
bnd (v54 + 1) fun x61 =>
kh103 s59 x60 v53 x61)
abbrev mX8_digest_103 (kh92 : St → Int64 → Int32 → Option (Int64 × St)) (n : Nat) : St → Int64 → Int32 → Int32 → Option (Int64 × St) := fx (fun _ _ _ _ => none) (bX8_digest_103 kh92) n
def bX8_digest_92 (kh92 : St → Int64 → Int32 → Option (Int64 × St)) (s64 : St) (v62 : Int64) (v63 : Int32) : Option (Int64 × St) :=
if (s64.1 6 0) ≤ v63 then (
mX8_digest_137 s64 v62)
else (
mX8_digest_103 kh92 NF s64 v62 v63 0)
abbrev mX8_digest_92 (n : Nat) : St → Int64 → Int32 → Option (Int64 × St) := fx (fun _ _ _ => none) (bX8_digest_92) n
def mX8_digest_90 (s67 : St) (v66 : Int64) : Option (Int64 × St) :=
mX8_digest_92 NF s67 v66 0
def bX8_digest_38 (kh38 : St → Int64 → Int32 → Option (Int64 × St)) (s70 : St) (v68 : Int64) (v69 : Int32) : Option (Int64 × St) :=
if (s70.1 5 0) ≤ v69 then (
mX8_digest_90 s70 v68)
else (
chkI v69 240 (
chkI v69 240 (
chkI v69 240 (
bnd ((((((v68 * 31) + ((s70.1 15 v69.toNatClampNeg).toInt64)) * 31) + ((s70.1 16 v69.toNatClampNeg).toInt64)) * 31) + ((s70.1 17 v69.toNatClampNeg).toInt64)) fun x72 =>
bnd (v69 + 1) fun x73 =>
kh38 s70 x72 x73))))
abbrev mX8_digest_38 (n : Nat) : St → Int64 → Int32 → Option (Int64 × St) := fx (fun _ _ _ => none) (bX8_digest_38) n
def mX8_digest_36 (s75 : St) (v74 : Int64) : Option (Int64 × St) :=
mX8_digest_38 NF s75 v74 0
def bX8_digest_11 (kh11 : St → Int64 → Int32 → Option (Int64 × St)) (s78 : St) (v76 : Int64) (v77 : Int32) : Option (Int64 × St) :=
if 9 ≤ v77 then (
mX8_digest_36 s78 v76)
else (
(mX8_counted s78 v77).bind fun ⟨r80, s82⟩ =>
bnd ((v76 * 31) + r80.toInt64) fun x83 =>
bnd (v77 + 1) fun x84 =>
kh11 s82 x83 x84)
abbrev mX8_digest_11 (n : Nat) : St → Int64 → Int32 → Option (Int64 × St) := fx (fun _ _ _ => none) (bX8_digest_11) n
def mX8_digest (σ : St) : Option (Int64 × St) :=
bnd (su σ 0 (fun _ => 0)) fun s85 =>
mX8_digest_11 10 s85 419 0
set_option maxHeartbeats 4000000 in
set_option maxRecDepth 100000 in
theorem kX8_digest (l : Launch) (D : va_G) (y : Nat → ClassId) (a t : Nat → Nat) (hI : AI a 30) (sz : Nat) (σ τ : St) (r : Int64) (hm : mX8_digest σ = some (r, τ)) : Met l yX8_digest zX8_digest { frames := 4, cells := 146, slots := 1042, locals := 89 } (va_Pc [.ref (a 0)] (preW (wM y a) a 30 D y t σ sz)) (va_Ql (fun r' u => r' = r ∧ u = τ) (posW (wM y a) D) (AC a 30 sz)) 146 1042 (AC a 30 sz) := by
  refine Met.ofW (cc := cX8_digest) (maxL := 5) (ret := (some .long)) (by decide) rfl ?_
  intro p e s m args below meth c s₁ B hml hv
  obtain ⟨rfl, hsz, hP, hK, hF⟩ := hv
  have hx := B.exec
  have hb := B.bytes
  have hr := B.returns
  have hts := atoms_spec (ws := zX8_digest) B.pre
  have hown : s.vm.findClass RX8 = some m.cls := findClass_of_methodNamed B.named
  have hlocks := B.notSynchronized
  subst hsz
  have l_f106 := hts _ (List.mem_cons_of_mem _ aF_X8_106)
  have l_c289 := hts _ (List.mem_cons_of_mem _ aK_X8_289)
  have l_c291 := hts _ (List.mem_cons_of_mem _ aK_X8_291)
  have l_f109 := hts _ (List.mem_cons_of_mem _ aF_X8_109)
  have l_f20 := hts _ (List.mem_cons_of_mem _ aF_X8_20)
  have l_f23 := hts _ (List.mem_cons_of_mem _ aF_X8_23)
  have l_f26 := hts _ (List.mem_cons_of_mem _ aF_X8_26)
  have l_f199 := hts _ (List.mem_cons_of_mem _ aF_X8_199)
  have l_f202 := hts _ (List.mem_cons_of_mem _ aF_X8_202)
  have l_f227 := hts _ (List.mem_cons_of_mem _ aF_X8_227)
  have l_f196 := hts _ (List.mem_cons_of_mem _ aF_X8_196)
  have l_f17 := hts _ (List.mem_cons_of_mem _ aF_X8_17)
  have h_X8 : ∀ w ∈ wsX80, w.before _ s = true := fun w hw => hts w (List.mem_cons_of_mem _ (hwX8 w hw))
  have hS : va_S (AC a 30 s.heap.size) s.heap s.heap [] := va_S.rf
  have hl := lv_entry ([.ref (a 0)]) (n := 5) (Nat.le_of_ble_eq_true rfl)
  rw [lg_entry_eq]
  generalize (lg_sl ([.ref (a 0)]) ++ List.replicate (5 - (lg_sl ([.ref (a 0)])).length) Slot.unset).toArray = ls at hl ⊢
  have hl : lv_has ls 5 [(0, .ref (a 0))] := hl
  have L_232 : ∀ (n : Nat) (s3 : St) (v1 : Int64) (v2 : Int32) (H : Heap) (locs : List Loc) (ls : Array Slot), va_P D vwCl (wM y a s3) H → va_S (AC a 30 s.heap.size) s.heap H locs → lv_has ls 5 [(0, .ref (a 0)), (1, .long v1), (3, .int v2)] → mX8_digest_232 n s3 v1 v2 = some (r, τ) → W p l e (headSpec zX8_digest ({ frames := 4, cells := 146, slots := 1042, locals := 89 })).room s m ([.ref (a 0)] : List Value).toArray below meth c H locs 146 1042 (MQ below (va_Ql (fun r' u => r' = r ∧ u = τ) (posW (wM y a) D) (AC a 30 s.heap.size)) ([.ref (a 0)] : List Value).toArray s 146 1042 (AC a 30 s.heap.size)) (F0 m 232 ls []) := by
    intro n
    induction n with
    | zero =>
      intro s3 v1 v2 H locs ls hP hS hl hm
      exact absurd (show (none : Option (Int64 × St)) = some (r, τ) from hm) (by intro h; cases h)
    | succ n ih232 =>
      obtain ⟨kh232, ekh232⟩ : ∃ z, z = mX8_digest_232 n := ⟨_, rfl⟩
      have ih232 : ∀ (s3 : St) (v1 : Int64) (v2 : Int32) (H : Heap) (locs : List Loc) (ls : Array Slot), va_P D vwCl (wM y a s3) H → va_S (AC a 30 s.heap.size) s.heap H locs → lv_has ls 5 [(0, .ref (a 0)), (1, .long v1), (3, .int v2)] → kh232 s3 v1 v2 = some (r, τ) → W p l e (headSpec zX8_digest ({ frames := 4, cells := 146, slots := 1042, locals := 89 })).room s m ([.ref (a 0)] : List Value).toArray below meth c H locs 146 1042 (MQ below (va_Ql (fun r' u => r' = r ∧ u = τ) (posW (wM y a) D) (AC a 30 s.heap.size)) ([.ref (a 0)] : List Value).toArray s 146 1042 (AC a 30 s.heap.size)) (F0 m 232 ls []) := by rw [ekh232]; exact ih232
      intro s3 v1 v2 H locs ls hP hS hl hm
      have hm : bX8_digest_232 (mX8_digest_232 n) s3 v1 v2 = some (r, τ) := hm
      rw [← ekh232] at hm
      unfold bX8_digest_232 at hm
      refine lv_iload_n hx hb dX8_digest_232 rfl (lv_at hl 2 rfl) ?_
      refine lv_aload_n hx hb dX8_digest_233 rfl (lv_at hl 0 rfl) ?_
      refine gfX8_papered hx hb h_X8 hown hK hP l_f196 dX8_digest_234 ?_
      refine lv_icmp_ge (tgt := 260) hx hb dX8_digest_237 (by decide) (fun c4 => ?_) (fun c4 => ?_)
      · have hm := (if_pos c4).symm.trans hm
        refine lv_lload_n hx hb dX8_digest_260 rfl (lv_at hl 1 rfl) ?_
        exact W.lret (v := v1) hx hb hr (fun T hT hW => ⟨⟨v1, s3, rfl, ⟨congrArg Prod.fst (Option.some.inj hm), congrArg Prod.snd (Option.some.inj hm)⟩, by rw [posW, hT]; exact hP⟩, hS.F hT⟩) hS.2.2 dX8_digest_261
      · have hm := (if_neg c4).symm.trans hm
        refine lv_lload_n hx hb dX8_digest_240 rfl (lv_at hl 1 rfl) ?_
        refine lv_ldc2 (v := 31) hx hb hown l_c291 dX8_digest_241 ?_
        refine lv_lmul hx hb dX8_digest_244 ?_
        refine lv_aload_n hx hb dX8_digest_245 rfl (lv_at hl 0 rfl) ?_
        refine gfX8_paper hx hb h_X8 hown hK hP l_f17 dX8_digest_246 ?_
        refine lv_iload_n hx hb dX8_digest_249 rfl (lv_at hl 2 rfl) ?_
        obtain ⟨hi, hm⟩ := ok_I hm
        refine ldM_2 hx hb hK hP hi dX8_digest_250 ?_
        refine lv_i2l (v := (s3.1 14 v2.toNatClampNeg).toInt64) hx hb dX8_digest_251 rfl ?_
        refine lv_ladd hx hb dX8_digest_252 ?_
        refine lv_topl (fun x5 ex5 => ?_)
        have hm := bnd_x ex5 hm
        refine lv_lstore_n (lv' := [(1, .long x5), (0, .ref (a 0)), (3, .int v2)]) hx hb dX8_digest_253 rfl hl (by decide) rfl (fun ls hl => ?_)
        obtain ⟨x6, ex6⟩ : ∃ z : Int32, z = v2 + 1 := ⟨_, rfl⟩
        have hm := bnd_x ex6 hm
        refine lv_iinc (v := x6) (lv' := [(3, .int x6), (1, .long x5), (0, .ref (a 0))]) hx hb dX8_digest_254 hl (k := 2) rfl (by rw [ex6]; rfl) (by decide) rfl (fun ls hl => ?_)
        refine lv_goto (tgt := 232) hx hb dX8_digest_257 (by decide) ?_
        exact ih232 s3 x5 x6 _ _ _ hP hS (lv_sub hl [2, 1, 0] rfl) hm
  have L_230 : ∀ (s8 : St) (v7 : Int64) (H : Heap) (locs : List Loc) (ls : Array Slot), va_P D vwCl (wM y a s8) H → va_S (AC a 30 s.heap.size) s.heap H locs → lv_has ls 5 [(0, .ref (a 0)), (1, .long v7)] → mX8_digest_230 s8 v7 = some (r, τ) → W p l e (headSpec zX8_digest ({ frames := 4, cells := 146, slots := 1042, locals := 89 })).room s m ([.ref (a 0)] : List Value).toArray below meth c H locs 146 1042 (MQ below (va_Ql (fun r' u => r' = r ∧ u = τ) (posW (wM y a) D) (AC a 30 s.heap.size)) ([.ref (a 0)] : List Value).toArray s 146 1042 (AC a 30 s.heap.size)) (F0 m 230 ls []) := by
    intro s8 v7 H locs ls hP hS hl hm
    unfold mX8_digest_230 at hm
    refine lv_iconst (v := 0) hx hb dX8_digest_230 (by decide) ?_
    refine lv_istore_n (lv' := [(3, .int 0), (0, .ref (a 0)), (1, .long v7)]) hx hb dX8_digest_231 rfl hl (by decide) rfl (fun ls hl => ?_)
    exact L_232 NF s8 v7 0 _ _ _ hP hS (lv_sub hl [1, 2, 0] rfl) hm
  have L_185 : ∀ (n185 : Nat) (hn185 : n185 ≤ 17) (s25 : St) (v23 : Int64) (v24 : Int32) (H : Heap) (locs : List Loc) (ls : Array Slot), va_P D vwCl (wM y a s25) H → va_S (AC a 30 s.heap.size) s.heap H locs → lv_has ls 5 [(0, .ref (a 0)), (1, .long v23), (3, .int v24)] → mX8_digest_185 n185 s25 v23 v24 = some (r, τ) → W p l e (headSpec zX8_digest ({ frames := 4, cells := 146, slots := 1042, locals := 89 })).room s m ([.ref (a 0)] : List Value).toArray below meth c H locs (10 + 8 * (17 - n185)) (90 + 56 * (17 - n185)) (MQ below (va_Ql (fun r' u => r' = r ∧ u = τ) (posW (wM y a) D) (AC a 30 s.heap.size)) ([.ref (a 0)] : List Value).toArray s 146 1042 (AC a 30 s.heap.size)) (F0 m 185 ls []) := by
    intro n185
    induction n185 with
    | zero =>
      intro _ s25 v23 v24 H locs ls hP hS hl hm
      exact absurd (show (none : Option (Int64 × St)) = some (r, τ) from hm) (by intro h; cases h)
    | succ n185 ih185 =>
      intro hn185
      obtain ⟨kh185, ekh185⟩ : ∃ z, z = mX8_digest_185 n185 := ⟨_, rfl⟩
      have ih185 : ∀ (s25 : St) (v23 : Int64) (v24 : Int32) (H : Heap) (locs : List Loc) (ls : Array Slot), va_P D vwCl (wM y a s25) H → va_S (AC a 30 s.heap.size) s.heap H locs → lv_has ls 5 [(0, .ref (a 0)), (1, .long v23), (3, .int v24)] → kh185 s25 v23 v24 = some (r, τ) → W p l e (headSpec zX8_digest ({ frames := 4, cells := 146, slots := 1042, locals := 89 })).room s m ([.ref (a 0)] : List Value).toArray below meth c H locs (10 + 8 * (17 - n185)) (90 + 56 * (17 - n185)) (MQ below (va_Ql (fun r' u => r' = r ∧ u = τ) (posW (wM y a) D) (AC a 30 s.heap.size)) ([.ref (a 0)] : List Value).toArray s 146 1042 (AC a 30 s.heap.size)) (F0 m 185 ls []) := by rw [ekh185]; exact ih185 (by omega)
      have L_224 : ∀ (s11 : St) (v9 : Int64) (v10 : Int32) (H : Heap) (locs : List Loc) (ls : Array Slot), va_P D vwCl (wM y a s11) H → va_S (AC a 30 s.heap.size) s.heap H locs → lv_has ls 5 [(0, .ref (a 0)), (1, .long v9), (3, .int v10)] → mX8_digest_224 kh185 s11 v9 v10 = some (r, τ) → W p l e (headSpec zX8_digest ({ frames := 4, cells := 146, slots := 1042, locals := 89 })).room s m ([.ref (a 0)] : List Value).toArray below meth c H locs (18 + 8 * (17 - (n185 + 1))) (146 + 56 * (17 - (n185 + 1))) (MQ below (va_Ql (fun r' u => r' = r ∧ u = τ) (posW (wM y a) D) (AC a 30 s.heap.size)) ([.ref (a 0)] : List Value).toArray s 146 1042 (AC a 30 s.heap.size)) (F0 m 224 ls []) := by
        intro s11 v9 v10 H locs ls hP hS hl hm
        unfold mX8_digest_224 at hm
        obtain ⟨x12, ex12⟩ : ∃ z : Int32, z = v10 + 1 := ⟨_, rfl⟩
        have hm := bnd_x ex12 hm
        refine lv_iinc (v := x12) (lv' := [(3, .int x12), (0, .ref (a 0)), (1, .long v9)]) hx hb dX8_digest_224 hl (k := 2) rfl (by rw [ex12]; rfl) (by decide) rfl (fun ls hl => ?_)
        refine lv_goto (tgt := 185) hx hb dX8_digest_227 (by decide) ?_
        refine W.widen (k := 10 + 8 * (17 - n185)) (n := 90 + 56 * (17 - n185)) (by omega) (by omega) ?_
        exact ih185 s11 v9 x12 _ _ _ hP hS (lv_sub hl [1, 2, 0] rfl) hm
      have L_196 : ∀ (n196 : Nat) (hn196 : n196 ≤ 8) (s16 : St) (v13 : Int64) (v14 : Int32) (v15 : Int32) (H : Heap) (locs : List Loc) (ls : Array Slot), va_P D vwCl (wM y a s16) H → va_S (AC a 30 s.heap.size) s.heap H locs → lv_has ls 5 [(0, .ref (a 0)), (1, .long v13), (3, .int v14), (4, .int v15)] → mX8_digest_196 kh185 n196 s16 v13 v14 v15 = some (r, τ) → W p l e (headSpec zX8_digest ({ frames := 4, cells := 146, slots := 1042, locals := 89 })).room s m ([.ref (a 0)] : List Value).toArray below meth c H locs (10 + 8 * (17 - (n185 + 1)) + 1 * (8 - n196)) (90 + 56 * (17 - (n185 + 1)) + 7 * (8 - n196)) (MQ below (va_Ql (fun r' u => r' = r ∧ u = τ) (posW (wM y a) D) (AC a 30 s.heap.size)) ([.ref (a 0)] : List Value).toArray s 146 1042 (AC a 30 s.heap.size)) (F0 m 196 ls []) := by
        intro n196
        induction n196 with
        | zero =>
          intro _ s16 v13 v14 v15 H locs ls hP hS hl hm
          exact absurd (show (none : Option (Int64 × St)) = some (r, τ) from hm) (by intro h; cases h)
        | succ n196 ih196 =>
          intro hn196
          obtain ⟨kh196, ekh196⟩ : ∃ z, z = mX8_digest_196 kh185 n196 := ⟨_, rfl⟩
          have ih196 : ∀ (s16 : St) (v13 : Int64) (v14 : Int32) (v15 : Int32) (H : Heap) (locs : List Loc) (ls : Array Slot), va_P D vwCl (wM y a s16) H → va_S (AC a 30 s.heap.size) s.heap H locs → lv_has ls 5 [(0, .ref (a 0)), (1, .long v13), (3, .int v14), (4, .int v15)] → kh196 s16 v13 v14 v15 = some (r, τ) → W p l e (headSpec zX8_digest ({ frames := 4, cells := 146, slots := 1042, locals := 89 })).room s m ([.ref (a 0)] : List Value).toArray below meth c H locs (10 + 8 * (17 - (n185 + 1)) + 1 * (8 - n196)) (90 + 56 * (17 - (n185 + 1)) + 7 * (8 - n196)) (MQ below (va_Ql (fun r' u => r' = r ∧ u = τ) (posW (wM y a) D) (AC a 30 s.heap.size)) ([.ref (a 0)] : List Value).toArray s 146 1042 (AC a 30 s.heap.size)) (F0 m 196 ls []) := by rw [ekh196]; exact ih196 (by omega)
          intro s16 v13 v14 v15 H locs ls hP hS hl hm
          have hm : bX8_digest_196 kh185 (mX8_digest_196 kh185 n196) s16 v13 v14 v15 = some (r, τ) := hm
          show W p l e (headSpec zX8_digest ({ frames := 4, cells := 146, slots := 1042, locals := 89 })).room s m ([.ref (a 0)] : List Value).toArray below meth c H locs (10 + 8 * (17 - (n185 + 1)) + 1 * (8 - (n196 + 1))) (90 + 56 * (17 - (n185 + 1)) + 7 * (8 - (n196 + 1))) (MQ below (va_Ql (fun r' u => r' = r ∧ u = τ) (posW (wM y a) D) (AC a 30 s.heap.size)) ([.ref (a 0)] : List Value).toArray s 146 1042 (AC a 30 s.heap.size)) (F0 m 196 ls [])
          rw [← ekh196] at hm
          unfold bX8_digest_196 at hm
          refine lv_iload hx hb dX8_digest_196 (lv_at hl 3 rfl) ?_
          refine lv_bipush (v := 7) hx hb dX8_digest_198 (by decide) ?_
          refine lv_icmp_ge (tgt := 224) hx hb dX8_digest_200 (by decide) (fun c17 => ?_) (fun c17 => ?_)
          · have hm := (if_pos c17).symm.trans hm
            refine W.widen (k := 18 + 8 * (17 - (n185 + 1))) (n := 146 + 56 * (17 - (n185 + 1))) (by omega) (by omega) ?_
            exact L_224 s16 v13 v14 _ _ _ hP hS (lv_sub hl [0, 1, 2] rfl) hm
          · have hm := (if_neg c17).symm.trans hm
            refine lv_lload_n hx hb dX8_digest_203 rfl (lv_at hl 1 rfl) ?_
            refine lv_ldc2 (v := 31) hx hb hown l_c291 dX8_digest_204 ?_
            refine lv_lmul hx hb dX8_digest_207 ?_
            refine lv_aload_n hx hb dX8_digest_208 rfl (lv_at hl 0 rfl) ?_
            refine lv_iload_n hx hb dX8_digest_209 rfl (lv_at hl 2 rfl) ?_
            refine lv_iload hx hb dX8_digest_210 (lv_at hl 3 rfl) ?_
            obtain ⟨⟨r18, s20⟩, h19, hm⟩ := ok_bind hm
            refine calV_iA (As := [.int v14, .int v15]) (rest := [.long (v13 * 31)]) ⟨hx, hb, hml, hown, hts⟩ (kX8_theoremTold l D y a t hI _ s16 s20 v14 v15 r18 h19) (cwV 2 hts (gAV aM_X8_286 aI_X8_theoremTold aS_X8_theoremTold aN_X8 aC_X8_theoremTold) rfl rfl rfl eX8_theoremTold ⟨Nat.le_of_ble_eq_true rfl, Nat.le_of_ble_eq_true rfl⟩) (preV_W (ci := 8) (q := (RX8, TX8, 42)) hK hP hF hS rfl (wM_0 y a s16)) rfl hl.1 rfl (Nat.le_of_ble_eq_true rfl) dX8_digest_212 ⟨by show 10 + 8 * (17 - (n185 + 1)) + 1 * (8 - (n196 + 1)) + 1 ≤ 146; omega, by show 90 + 56 * (17 - (n185 + 1)) + 7 * (8 - (n196 + 1)) + 7 ≤ 1042; omega⟩ hS (AC_le hS.1) (fun H locs hP hS hk1 => ?_)
            refine W.widen (k := 11 + 8 * (17 - (n185 + 1)) + 1 * (8 - (n196 + 1))) (n := 97 + 56 * (17 - (n185 + 1)) + 7 * (8 - (n196 + 1))) (by omega) (by omega) ?_
            refine lv_i2l (v := r18.toInt64) hx hb dX8_digest_215 rfl ?_
            refine lv_ladd hx hb dX8_digest_216 ?_
            refine lv_topl (fun x21 ex21 => ?_)
            have hm := bnd_x ex21 hm
            refine lv_lstore_n (lv' := [(1, .long x21), (0, .ref (a 0)), (3, .int v14), (4, .int v15)]) hx hb dX8_digest_217 rfl hl (by decide) rfl (fun ls hl => ?_)
            obtain ⟨x22, ex22⟩ : ∃ z : Int32, z = v15 + 1 := ⟨_, rfl⟩
            have hm := bnd_x ex22 hm
            refine lv_iinc (v := x22) (lv' := [(4, .int x22), (1, .long x21), (0, .ref (a 0)), (3, .int v14)]) hx hb dX8_digest_218 hl (k := 3) rfl (by rw [ex22]; rfl) (by decide) rfl (fun ls hl => ?_)
            refine lv_goto (tgt := 196) hx hb dX8_digest_221 (by decide) ?_
            refine W.widen (k := 10 + 8 * (17 - (n185 + 1)) + 1 * (8 - n196)) (n := 90 + 56 * (17 - (n185 + 1)) + 7 * (8 - n196)) (by omega) (by omega) ?_
            exact ih196 s20 x21 v14 x22 _ _ _ hP hS (lv_sub hl [2, 1, 3, 0] rfl) hm
      intro s25 v23 v24 H locs ls hP hS hl hm
      have hm : bX8_digest_185 (mX8_digest_185 n185) s25 v23 v24 = some (r, τ) := hm
      show W p l e (headSpec zX8_digest ({ frames := 4, cells := 146, slots := 1042, locals := 89 })).room s m ([.ref (a 0)] : List Value).toArray below meth c H locs (10 + 8 * (17 - (n185 + 1))) (90 + 56 * (17 - (n185 + 1))) (MQ below (va_Ql (fun r' u => r' = r ∧ u = τ) (posW (wM y a) D) (AC a 30 s.heap.size)) ([.ref (a 0)] : List Value).toArray s 146 1042 (AC a 30 s.heap.size)) (F0 m 185 ls [])
      rw [← ekh185] at hm
      unfold bX8_digest_185 at hm
      refine lv_iload_n hx hb dX8_digest_185 rfl (lv_at hl 2 rfl) ?_
      refine lv_aload_n hx hb dX8_digest_186 rfl (lv_at hl 0 rfl) ?_
      refine gfX8_theorems hx hb h_X8 hown hK hP l_f227 dX8_digest_187 ?_
      refine lv_icmp_ge (tgt := 230) hx hb dX8_digest_190 (by decide) (fun c26 => ?_) (fun c26 => ?_)
      · have hm := (if_pos c26).symm.trans hm
        refine W.widen (k := 146) (n := 1042) (by omega) (by omega) ?_
        exact L_230 s25 v23 _ _ _ hP hS (lv_sub hl [0, 1] rfl) hm
      · have hm := (if_neg c26).symm.trans hm
        refine lv_iconst (v := 0) hx hb dX8_digest_193 (by decide) ?_
        refine lv_istore (lv' := [(4, .int 0), (0, .ref (a 0)), (1, .long v23), (3, .int v24)]) hx hb dX8_digest_194 hl (by decide) rfl (fun ls hl => ?_)
        exact L_196 8 (Nat.le_refl _) s25 v23 v24 0 _ _ _ hP hS (lv_sub hl [1, 2, 3, 0] rfl) hm
  have L_183 : ∀ (s28 : St) (v27 : Int64) (H : Heap) (locs : List Loc) (ls : Array Slot), va_P D vwCl (wM y a s28) H → va_S (AC a 30 s.heap.size) s.heap H locs → lv_has ls 5 [(0, .ref (a 0)), (1, .long v27)] → mX8_digest_183 s28 v27 = some (r, τ) → W p l e (headSpec zX8_digest ({ frames := 4, cells := 146, slots := 1042, locals := 89 })).room s m ([.ref (a 0)] : List Value).toArray below meth c H locs 10 90 (MQ below (va_Ql (fun r' u => r' = r ∧ u = τ) (posW (wM y a) D) (AC a 30 s.heap.size)) ([.ref (a 0)] : List Value).toArray s 146 1042 (AC a 30 s.heap.size)) (F0 m 183 ls []) := by
    intro s28 v27 H locs ls hP hS hl hm
    unfold mX8_digest_183 at hm
    refine lv_iconst (v := 0) hx hb dX8_digest_183 (by decide) ?_
    refine lv_istore_n (lv' := [(3, .int 0), (0, .ref (a 0)), (1, .long v27)]) hx hb dX8_digest_184 rfl hl (by decide) rfl (fun ls hl => ?_)
    exact L_185 17 (Nat.le_refl _) s28 v27 0 _ _ _ hP hS (lv_sub hl [1, 2, 0] rfl) hm
  have L_139 : ∀ (n : Nat) (s44 : St) (v42 : Int64) (v43 : Int32) (H : Heap) (locs : List Loc) (ls : Array Slot), va_P D vwCl (wM y a s44) H → va_S (AC a 30 s.heap.size) s.heap H locs → lv_has ls 5 [(0, .ref (a 0)), (1, .long v42), (3, .int v43)] → mX8_digest_139 n s44 v42 v43 = some (r, τ) → W p l e (headSpec zX8_digest ({ frames := 4, cells := 146, slots := 1042, locals := 89 })).room s m ([.ref (a 0)] : List Value).toArray below meth c H locs 10 90 (MQ below (va_Ql (fun r' u => r' = r ∧ u = τ) (posW (wM y a) D) (AC a 30 s.heap.size)) ([.ref (a 0)] : List Value).toArray s 146 1042 (AC a 30 s.heap.size)) (F0 m 139 ls []) := by
    intro n
    induction n with
    | zero =>
      intro s44 v42 v43 H locs ls hP hS hl hm
      exact absurd (show (none : Option (Int64 × St)) = some (r, τ) from hm) (by intro h; cases h)
    | succ n ih139 =>
      obtain ⟨kh139, ekh139⟩ : ∃ z, z = mX8_digest_139 n := ⟨_, rfl⟩
      have ih139 : ∀ (s44 : St) (v42 : Int64) (v43 : Int32) (H : Heap) (locs : List Loc) (ls : Array Slot), va_P D vwCl (wM y a s44) H → va_S (AC a 30 s.heap.size) s.heap H locs → lv_has ls 5 [(0, .ref (a 0)), (1, .long v42), (3, .int v43)] → kh139 s44 v42 v43 = some (r, τ) → W p l e (headSpec zX8_digest ({ frames := 4, cells := 146, slots := 1042, locals := 89 })).room s m ([.ref (a 0)] : List Value).toArray below meth c H locs 10 90 (MQ below (va_Ql (fun r' u => r' = r ∧ u = τ) (posW (wM y a) D) (AC a 30 s.heap.size)) ([.ref (a 0)] : List Value).toArray s 146 1042 (AC a 30 s.heap.size)) (F0 m 139 ls []) := by rw [ekh139]; exact ih139
      have L_177 : ∀ (s31 : St) (v29 : Int64) (v30 : Int32) (H : Heap) (locs : List Loc) (ls : Array Slot), va_P D vwCl (wM y a s31) H → va_S (AC a 30 s.heap.size) s.heap H locs → lv_has ls 5 [(0, .ref (a 0)), (1, .long v29), (3, .int v30)] → mX8_digest_177 kh139 s31 v29 v30 = some (r, τ) → W p l e (headSpec zX8_digest ({ frames := 4, cells := 146, slots := 1042, locals := 89 })).room s m ([.ref (a 0)] : List Value).toArray below meth c H locs 10 90 (MQ below (va_Ql (fun r' u => r' = r ∧ u = τ) (posW (wM y a) D) (AC a 30 s.heap.size)) ([.ref (a 0)] : List Value).toArray s 146 1042 (AC a 30 s.heap.size)) (F0 m 177 ls []) := by
        intro s31 v29 v30 H locs ls hP hS hl hm
        unfold mX8_digest_177 at hm
        obtain ⟨x32, ex32⟩ : ∃ z : Int32, z = v30 + 1 := ⟨_, rfl⟩
        have hm := bnd_x ex32 hm
        refine lv_iinc (v := x32) (lv' := [(3, .int x32), (0, .ref (a 0)), (1, .long v29)]) hx hb dX8_digest_177 hl (k := 2) rfl (by rw [ex32]; rfl) (by decide) rfl (fun ls hl => ?_)
        refine lv_goto (tgt := 139) hx hb dX8_digest_180 (by decide) ?_
        exact ih139 s31 v29 x32 _ _ _ hP hS (lv_sub hl [1, 2, 0] rfl) hm
      have L_150 : ∀ (n : Nat) (s36 : St) (v33 : Int64) (v34 : Int32) (v35 : Int32) (H : Heap) (locs : List Loc) (ls : Array Slot), va_P D vwCl (wM y a s36) H → va_S (AC a 30 s.heap.size) s.heap H locs → lv_has ls 5 [(0, .ref (a 0)), (1, .long v33), (3, .int v34), (4, .int v35)] → mX8_digest_150 kh139 n s36 v33 v34 v35 = some (r, τ) → W p l e (headSpec zX8_digest ({ frames := 4, cells := 146, slots := 1042, locals := 89 })).room s m ([.ref (a 0)] : List Value).toArray below meth c H locs 10 90 (MQ below (va_Ql (fun r' u => r' = r ∧ u = τ) (posW (wM y a) D) (AC a 30 s.heap.size)) ([.ref (a 0)] : List Value).toArray s 146 1042 (AC a 30 s.heap.size)) (F0 m 150 ls []) := by
        intro n
        induction n with
        | zero =>
          intro s36 v33 v34 v35 H locs ls hP hS hl hm
          exact absurd (show (none : Option (Int64 × St)) = some (r, τ) from hm) (by intro h; cases h)
        | succ n ih150 =>
          obtain ⟨kh150, ekh150⟩ : ∃ z, z = mX8_digest_150 kh139 n := ⟨_, rfl⟩
          have ih150 : ∀ (s36 : St) (v33 : Int64) (v34 : Int32) (v35 : Int32) (H : Heap) (locs : List Loc) (ls : Array Slot), va_P D vwCl (wM y a s36) H → va_S (AC a 30 s.heap.size) s.heap H locs → lv_has ls 5 [(0, .ref (a 0)), (1, .long v33), (3, .int v34), (4, .int v35)] → kh150 s36 v33 v34 v35 = some (r, τ) → W p l e (headSpec zX8_digest ({ frames := 4, cells := 146, slots := 1042, locals := 89 })).room s m ([.ref (a 0)] : List Value).toArray below meth c H locs 10 90 (MQ below (va_Ql (fun r' u => r' = r ∧ u = τ) (posW (wM y a) D) (AC a 30 s.heap.size)) ([.ref (a 0)] : List Value).toArray s 146 1042 (AC a 30 s.heap.size)) (F0 m 150 ls []) := by rw [ekh150]; exact ih150
          intro s36 v33 v34 v35 H locs ls hP hS hl hm
          have hm : bX8_digest_150 kh139 (mX8_digest_150 kh139 n) s36 v33 v34 v35 = some (r, τ) := hm
          rw [← ekh150] at hm
          unfold bX8_digest_150 at hm
          refine lv_iload hx hb dX8_digest_150 (lv_at hl 3 rfl) ?_
          refine lv_iconst (v := 4) hx hb dX8_digest_152 (by decide) ?_
          refine lv_icmp_ge (tgt := 177) hx hb dX8_digest_153 (by decide) (fun c37 => ?_) (fun c37 => ?_)
          · have hm := (if_pos c37).symm.trans hm
            exact L_177 s36 v33 v34 _ _ _ hP hS (lv_sub hl [0, 1, 2] rfl) hm
          · have hm := (if_neg c37).symm.trans hm
            refine lv_lload_n hx hb dX8_digest_156 rfl (lv_at hl 1 rfl) ?_
            refine lv_ldc2 (v := 31) hx hb hown l_c291 dX8_digest_157 ?_
            refine lv_lmul hx hb dX8_digest_160 ?_
            refine lv_aload_n hx hb dX8_digest_161 rfl (lv_at hl 0 rfl) ?_
            refine lv_iload_n hx hb dX8_digest_162 rfl (lv_at hl 2 rfl) ?_
            refine lv_iload hx hb dX8_digest_163 (lv_at hl 3 rfl) ?_
            obtain ⟨r38, h39, hm⟩ := ok_bind hm
            refine calV_i (As := [.int v34, .int v35]) (rest := [.long (v33 * 31)]) ⟨hx, hb, hml, hown, hts⟩ (kX8_boxTold l D y a t hI _ s36 v34 v35 r38 h39) (cwV 2 hts (gAV aM_X8_274 aI_X8_boxTold aS_X8_boxTold aN_X8 aC_X8_boxTold) rfl rfl rfl eX8_boxTold ⟨Nat.le_of_ble_eq_true rfl, Nat.le_of_ble_eq_true rfl⟩) (preV_W (ci := 8) (q := (RX8, TX8, 42)) hK hP hF hS rfl (wM_0 y a s36)) rfl hl.1 rfl (Nat.le_of_ble_eq_true rfl) dX8_digest_165 ⟨Nat.le_of_ble_eq_true rfl, Nat.le_of_ble_eq_true rfl⟩ hS (AC_le hS.1) (fun H locs hP hS hk1 => ?_)
            refine lv_i2l (v := r38.toInt64) hx hb dX8_digest_168 rfl ?_
            refine lv_ladd hx hb dX8_digest_169 ?_
            refine lv_topl (fun x40 ex40 => ?_)
            have hm := bnd_x ex40 hm
            refine lv_lstore_n (lv' := [(1, .long x40), (0, .ref (a 0)), (3, .int v34), (4, .int v35)]) hx hb dX8_digest_170 rfl hl (by decide) rfl (fun ls hl => ?_)
            obtain ⟨x41, ex41⟩ : ∃ z : Int32, z = v35 + 1 := ⟨_, rfl⟩
            have hm := bnd_x ex41 hm
            refine lv_iinc (v := x41) (lv' := [(4, .int x41), (1, .long x40), (0, .ref (a 0)), (3, .int v34)]) hx hb dX8_digest_171 hl (k := 3) rfl (by rw [ex41]; rfl) (by decide) rfl (fun ls hl => ?_)
            refine lv_goto (tgt := 150) hx hb dX8_digest_174 (by decide) ?_
            exact ih150 s36 x40 v34 x41 _ _ _ hP hS (lv_sub hl [2, 1, 3, 0] rfl) hm
      intro s44 v42 v43 H locs ls hP hS hl hm
      have hm : bX8_digest_139 (mX8_digest_139 n) s44 v42 v43 = some (r, τ) := hm
      rw [← ekh139] at hm
      unfold bX8_digest_139 at hm
      refine lv_iload_n hx hb dX8_digest_139 rfl (lv_at hl 2 rfl) ?_
      refine lv_aload_n hx hb dX8_digest_140 rfl (lv_at hl 0 rfl) ?_
      refine gfX8_boxes hx hb h_X8 hown hK hP l_f202 dX8_digest_141 ?_
      refine lv_icmp_ge (tgt := 183) hx hb dX8_digest_144 (by decide) (fun c45 => ?_) (fun c45 => ?_)
      · have hm := (if_pos c45).symm.trans hm
        exact L_183 s44 v42 _ _ _ hP hS (lv_sub hl [0, 1] rfl) hm
      · have hm := (if_neg c45).symm.trans hm
        refine lv_iconst (v := 0) hx hb dX8_digest_147 (by decide) ?_
        refine lv_istore (lv' := [(4, .int 0), (0, .ref (a 0)), (1, .long v42), (3, .int v43)]) hx hb dX8_digest_148 hl (by decide) rfl (fun ls hl => ?_)
        exact L_150 NF s44 v42 v43 0 _ _ _ hP hS (lv_sub hl [1, 2, 3, 0] rfl) hm
  have L_137 : ∀ (s47 : St) (v46 : Int64) (H : Heap) (locs : List Loc) (ls : Array Slot), va_P D vwCl (wM y a s47) H → va_S (AC a 30 s.heap.size) s.heap H locs → lv_has ls 5 [(0, .ref (a 0)), (1, .long v46)] → mX8_digest_137 s47 v46 = some (r, τ) → W p l e (headSpec zX8_digest ({ frames := 4, cells := 146, slots := 1042, locals := 89 })).room s m ([.ref (a 0)] : List Value).toArray below meth c H locs 10 90 (MQ below (va_Ql (fun r' u => r' = r ∧ u = τ) (posW (wM y a) D) (AC a 30 s.heap.size)) ([.ref (a 0)] : List Value).toArray s 146 1042 (AC a 30 s.heap.size)) (F0 m 137 ls []) := by
    intro s47 v46 H locs ls hP hS hl hm
    unfold mX8_digest_137 at hm
    refine lv_iconst (v := 0) hx hb dX8_digest_137 (by decide) ?_
    refine lv_istore_n (lv' := [(3, .int 0), (0, .ref (a 0)), (1, .long v46)]) hx hb dX8_digest_138 rfl hl (by decide) rfl (fun ls hl => ?_)
    exact L_139 NF s47 v46 0 _ _ _ hP hS (lv_sub hl [1, 2, 0] rfl) hm
  have L_92 : ∀ (n : Nat) (s64 : St) (v62 : Int64) (v63 : Int32) (H : Heap) (locs : List Loc) (ls : Array Slot), va_P D vwCl (wM y a s64) H → va_S (AC a 30 s.heap.size) s.heap H locs → lv_has ls 5 [(0, .ref (a 0)), (1, .long v62), (3, .int v63)] → mX8_digest_92 n s64 v62 v63 = some (r, τ) → W p l e (headSpec zX8_digest ({ frames := 4, cells := 146, slots := 1042, locals := 89 })).room s m ([.ref (a 0)] : List Value).toArray below meth c H locs 10 90 (MQ below (va_Ql (fun r' u => r' = r ∧ u = τ) (posW (wM y a) D) (AC a 30 s.heap.size)) ([.ref (a 0)] : List Value).toArray s 146 1042 (AC a 30 s.heap.size)) (F0 m 92 ls []) := by
    intro n
    induction n with
    | zero =>
      intro s64 v62 v63 H locs ls hP hS hl hm
      exact absurd (show (none : Option (Int64 × St)) = some (r, τ) from hm) (by intro h; cases h)
    | succ n ih92 =>
      obtain ⟨kh92, ekh92⟩ : ∃ z, z = mX8_digest_92 n := ⟨_, rfl⟩
      have ih92 : ∀ (s64 : St) (v62 : Int64) (v63 : Int32) (H : Heap) (locs : List Loc) (ls : Array Slot), va_P D vwCl (wM y a s64) H → va_S (AC a 30 s.heap.size) s.heap H locs → lv_has ls 5 [(0, .ref (a 0)), (1, .long v62), (3, .int v63)] → kh92 s64 v62 v63 = some (r, τ) → W p l e (headSpec zX8_digest ({ frames := 4, cells := 146, slots := 1042, locals := 89 })).room s m ([.ref (a 0)] : List Value).toArray below meth c H locs 10 90 (MQ below (va_Ql (fun r' u => r' = r ∧ u = τ) (posW (wM y a) D) (AC a 30 s.heap.size)) ([.ref (a 0)] : List Value).toArray s 146 1042 (AC a 30 s.heap.size)) (F0 m 92 ls []) := by rw [ekh92]; exact ih92
      have L_131 : ∀ (s50 : St) (v48 : Int64) (v49 : Int32) (H : Heap) (locs : List Loc) (ls : Array Slot), va_P D vwCl (wM y a s50) H → va_S (AC a 30 s.heap.size) s.heap H locs → lv_has ls 5 [(0, .ref (a 0)), (1, .long v48), (3, .int v49)] → mX8_digest_131 kh92 s50 v48 v49 = some (r, τ) → W p l e (headSpec zX8_digest ({ frames := 4, cells := 146, slots := 1042, locals := 89 })).room s m ([.ref (a 0)] : List Value).toArray below meth c H locs 10 90 (MQ below (va_Ql (fun r' u => r' = r ∧ u = τ) (posW (wM y a) D) (AC a 30 s.heap.size)) ([.ref (a 0)] : List Value).toArray s 146 1042 (AC a 30 s.heap.size)) (F0 m 131 ls []) := by
        intro s50 v48 v49 H locs ls hP hS hl hm
        unfold mX8_digest_131 at hm
        obtain ⟨x51, ex51⟩ : ∃ z : Int32, z = v49 + 1 := ⟨_, rfl⟩
        have hm := bnd_x ex51 hm
        refine lv_iinc (v := x51) (lv' := [(3, .int x51), (0, .ref (a 0)), (1, .long v48)]) hx hb dX8_digest_131 hl (k := 2) rfl (by rw [ex51]; rfl) (by decide) rfl (fun ls hl => ?_)
        refine lv_goto (tgt := 92) hx hb dX8_digest_134 (by decide) ?_
        exact ih92 s50 v48 x51 _ _ _ hP hS (lv_sub hl [1, 2, 0] rfl) hm
      have L_103 : ∀ (n : Nat) (s55 : St) (v52 : Int64) (v53 : Int32) (v54 : Int32) (H : Heap) (locs : List Loc) (ls : Array Slot), va_P D vwCl (wM y a s55) H → va_S (AC a 30 s.heap.size) s.heap H locs → lv_has ls 5 [(0, .ref (a 0)), (1, .long v52), (3, .int v53), (4, .int v54)] → mX8_digest_103 kh92 n s55 v52 v53 v54 = some (r, τ) → W p l e (headSpec zX8_digest ({ frames := 4, cells := 146, slots := 1042, locals := 89 })).room s m ([.ref (a 0)] : List Value).toArray below meth c H locs 10 90 (MQ below (va_Ql (fun r' u => r' = r ∧ u = τ) (posW (wM y a) D) (AC a 30 s.heap.size)) ([.ref (a 0)] : List Value).toArray s 146 1042 (AC a 30 s.heap.size)) (F0 m 103 ls []) := by
        intro n
        induction n with
        | zero =>
          intro s55 v52 v53 v54 H locs ls hP hS hl hm
          exact absurd (show (none : Option (Int64 × St)) = some (r, τ) from hm) (by intro h; cases h)
        | succ n ih103 =>
          obtain ⟨kh103, ekh103⟩ : ∃ z, z = mX8_digest_103 kh92 n := ⟨_, rfl⟩
          have ih103 : ∀ (s55 : St) (v52 : Int64) (v53 : Int32) (v54 : Int32) (H : Heap) (locs : List Loc) (ls : Array Slot), va_P D vwCl (wM y a s55) H → va_S (AC a 30 s.heap.size) s.heap H locs → lv_has ls 5 [(0, .ref (a 0)), (1, .long v52), (3, .int v53), (4, .int v54)] → kh103 s55 v52 v53 v54 = some (r, τ) → W p l e (headSpec zX8_digest ({ frames := 4, cells := 146, slots := 1042, locals := 89 })).room s m ([.ref (a 0)] : List Value).toArray below meth c H locs 10 90 (MQ below (va_Ql (fun r' u => r' = r ∧ u = τ) (posW (wM y a) D) (AC a 30 s.heap.size)) ([.ref (a 0)] : List Value).toArray s 146 1042 (AC a 30 s.heap.size)) (F0 m 103 ls []) := by rw [ekh103]; exact ih103
          intro s55 v52 v53 v54 H locs ls hP hS hl hm
          have hm : bX8_digest_103 kh92 (mX8_digest_103 kh92 n) s55 v52 v53 v54 = some (r, τ) := hm
          rw [← ekh103] at hm
          unfold bX8_digest_103 at hm
          refine lv_iload hx hb dX8_digest_103 (lv_at hl 3 rfl) ?_
          refine lv_bipush (v := 8) hx hb dX8_digest_105 (by decide) ?_
          refine lv_icmp_ge (tgt := 131) hx hb dX8_digest_107 (by decide) (fun c56 => ?_) (fun c56 => ?_)
          · have hm := (if_pos c56).symm.trans hm
            exact L_131 s55 v52 v53 _ _ _ hP hS (lv_sub hl [0, 1, 2] rfl) hm
          · have hm := (if_neg c56).symm.trans hm
            refine lv_lload_n hx hb dX8_digest_110 rfl (lv_at hl 1 rfl) ?_
            refine lv_ldc2 (v := 31) hx hb hown l_c291 dX8_digest_111 ?_
            refine lv_lmul hx hb dX8_digest_114 ?_
            refine lv_aload_n hx hb dX8_digest_115 rfl (lv_at hl 0 rfl) ?_
            refine lv_iload_n hx hb dX8_digest_116 rfl (lv_at hl 2 rfl) ?_
            refine lv_iload hx hb dX8_digest_117 (lv_at hl 3 rfl) ?_
            obtain ⟨⟨r57, s59⟩, h58, hm⟩ := ok_bind hm
            refine calV_i (As := [.int v53, .int v54]) (rest := [.long (v52 * 31)]) ⟨hx, hb, hml, hown, hts⟩ (kX8_lineTold l D y a t hI _ s55 s59 v53 v54 r57 h58) (cwV 2 hts (gAV aM_X8_271 aI_X8_lineTold aS_X8_lineTold aN_X8 aC_X8_lineTold) rfl rfl rfl eX8_lineTold ⟨Nat.le_of_ble_eq_true rfl, Nat.le_of_ble_eq_true rfl⟩) (preV_W (ci := 8) (q := (RX8, TX8, 42)) hK hP hF hS rfl (wM_0 y a s55)) rfl hl.1 rfl (Nat.le_of_ble_eq_true rfl) dX8_digest_119 ⟨Nat.le_of_ble_eq_true rfl, Nat.le_of_ble_eq_true rfl⟩ hS (AC_le hS.1) (fun H locs hP hS hk1 => ?_)
            refine lv_i2l (v := r57.toInt64) hx hb dX8_digest_122 rfl ?_
            refine lv_ladd hx hb dX8_digest_123 ?_
            refine lv_topl (fun x60 ex60 => ?_)
            have hm := bnd_x ex60 hm
            refine lv_lstore_n (lv' := [(1, .long x60), (0, .ref (a 0)), (3, .int v53), (4, .int v54)]) hx hb dX8_digest_124 rfl hl (by decide) rfl (fun ls hl => ?_)
            obtain ⟨x61, ex61⟩ : ∃ z : Int32, z = v54 + 1 := ⟨_, rfl⟩
            have hm := bnd_x ex61 hm
            refine lv_iinc (v := x61) (lv' := [(4, .int x61), (1, .long x60), (0, .ref (a 0)), (3, .int v53)]) hx hb dX8_digest_125 hl (k := 3) rfl (by rw [ex61]; rfl) (by decide) rfl (fun ls hl => ?_)
            refine lv_goto (tgt := 103) hx hb dX8_digest_128 (by decide) ?_
            exact ih103 s59 x60 v53 x61 _ _ _ hP hS (lv_sub hl [2, 1, 3, 0] rfl) hm
      intro s64 v62 v63 H locs ls hP hS hl hm
      have hm : bX8_digest_92 (mX8_digest_92 n) s64 v62 v63 = some (r, τ) := hm
      rw [← ekh92] at hm
      unfold bX8_digest_92 at hm
      refine lv_iload_n hx hb dX8_digest_92 rfl (lv_at hl 2 rfl) ?_
      refine lv_aload_n hx hb dX8_digest_93 rfl (lv_at hl 0 rfl) ?_
      refine gfX8_lines hx hb h_X8 hown hK hP l_f199 dX8_digest_94 ?_
      refine lv_icmp_ge (tgt := 137) hx hb dX8_digest_97 (by decide) (fun c65 => ?_) (fun c65 => ?_)
      · have hm := (if_pos c65).symm.trans hm
        exact L_137 s64 v62 _ _ _ hP hS (lv_sub hl [0, 1] rfl) hm
      · have hm := (if_neg c65).symm.trans hm
        refine lv_iconst (v := 0) hx hb dX8_digest_100 (by decide) ?_
        refine lv_istore (lv' := [(4, .int 0), (0, .ref (a 0)), (1, .long v62), (3, .int v63)]) hx hb dX8_digest_101 hl (by decide) rfl (fun ls hl => ?_)
        exact L_103 NF s64 v62 v63 0 _ _ _ hP hS (lv_sub hl [1, 2, 3, 0] rfl) hm
  have L_90 : ∀ (s67 : St) (v66 : Int64) (H : Heap) (locs : List Loc) (ls : Array Slot), va_P D vwCl (wM y a s67) H → va_S (AC a 30 s.heap.size) s.heap H locs → lv_has ls 5 [(0, .ref (a 0)), (1, .long v66)] → mX8_digest_90 s67 v66 = some (r, τ) → W p l e (headSpec zX8_digest ({ frames := 4, cells := 146, slots := 1042, locals := 89 })).room s m ([.ref (a 0)] : List Value).toArray below meth c H locs 10 90 (MQ below (va_Ql (fun r' u => r' = r ∧ u = τ) (posW (wM y a) D) (AC a 30 s.heap.size)) ([.ref (a 0)] : List Value).toArray s 146 1042 (AC a 30 s.heap.size)) (F0 m 90 ls []) := by
    intro s67 v66 H locs ls hP hS hl hm
    unfold mX8_digest_90 at hm
    refine lv_iconst (v := 0) hx hb dX8_digest_90 (by decide) ?_
    refine lv_istore_n (lv' := [(3, .int 0), (0, .ref (a 0)), (1, .long v66)]) hx hb dX8_digest_91 rfl hl (by decide) rfl (fun ls hl => ?_)
    exact L_92 NF s67 v66 0 _ _ _ hP hS (lv_sub hl [1, 2, 0] rfl) hm
  have L_38 : ∀ (n : Nat) (s70 : St) (v68 : Int64) (v69 : Int32) (H : Heap) (locs : List Loc) (ls : Array Slot), va_P D vwCl (wM y a s70) H → va_S (AC a 30 s.heap.size) s.heap H locs → lv_has ls 5 [(0, .ref (a 0)), (1, .long v68), (3, .int v69)] → mX8_digest_38 n s70 v68 v69 = some (r, τ) → W p l e (headSpec zX8_digest ({ frames := 4, cells := 146, slots := 1042, locals := 89 })).room s m ([.ref (a 0)] : List Value).toArray below meth c H locs 10 90 (MQ below (va_Ql (fun r' u => r' = r ∧ u = τ) (posW (wM y a) D) (AC a 30 s.heap.size)) ([.ref (a 0)] : List Value).toArray s 146 1042 (AC a 30 s.heap.size)) (F0 m 38 ls []) := by
    intro n
    induction n with
    | zero =>
      intro s70 v68 v69 H locs ls hP hS hl hm
      exact absurd (show (none : Option (Int64 × St)) = some (r, τ) from hm) (by intro h; cases h)
    | succ n ih38 =>
      obtain ⟨kh38, ekh38⟩ : ∃ z, z = mX8_digest_38 n := ⟨_, rfl⟩
      have ih38 : ∀ (s70 : St) (v68 : Int64) (v69 : Int32) (H : Heap) (locs : List Loc) (ls : Array Slot), va_P D vwCl (wM y a s70) H → va_S (AC a 30 s.heap.size) s.heap H locs → lv_has ls 5 [(0, .ref (a 0)), (1, .long v68), (3, .int v69)] → kh38 s70 v68 v69 = some (r, τ) → W p l e (headSpec zX8_digest ({ frames := 4, cells := 146, slots := 1042, locals := 89 })).room s m ([.ref (a 0)] : List Value).toArray below meth c H locs 10 90 (MQ below (va_Ql (fun r' u => r' = r ∧ u = τ) (posW (wM y a) D) (AC a 30 s.heap.size)) ([.ref (a 0)] : List Value).toArray s 146 1042 (AC a 30 s.heap.size)) (F0 m 38 ls []) := by rw [ekh38]; exact ih38
      intro s70 v68 v69 H locs ls hP hS hl hm
      have hm : bX8_digest_38 (mX8_digest_38 n) s70 v68 v69 = some (r, τ) := hm
      rw [← ekh38] at hm
      unfold bX8_digest_38 at hm
      refine lv_iload_n hx hb dX8_digest_38 rfl (lv_at hl 2 rfl) ?_
      refine lv_aload_n hx hb dX8_digest_39 rfl (lv_at hl 0 rfl) ?_
      refine gfX8_formulas hx hb h_X8 hown hK hP l_f109 dX8_digest_40 ?_
      refine lv_icmp_ge (tgt := 90) hx hb dX8_digest_43 (by decide) (fun c71 => ?_) (fun c71 => ?_)
      · have hm := (if_pos c71).symm.trans hm
        exact L_90 s70 v68 _ _ _ hP hS (lv_sub hl [0, 1] rfl) hm
      · have hm := (if_neg c71).symm.trans hm
        refine lv_lload_n hx hb dX8_digest_46 rfl (lv_at hl 1 rfl) ?_
        refine lv_ldc2 (v := 31) hx hb hown l_c291 dX8_digest_47 ?_
        refine lv_lmul hx hb dX8_digest_50 ?_
        refine lv_aload_n hx hb dX8_digest_51 rfl (lv_at hl 0 rfl) ?_
        refine gfX8_sorts hx hb h_X8 hown hK hP l_f20 dX8_digest_52 ?_
        refine lv_iload_n hx hb dX8_digest_55 rfl (lv_at hl 2 rfl) ?_
        obtain ⟨hi, hm⟩ := ok_I hm
        refine ldM_3 hx hb hK hP hi dX8_digest_56 ?_
        refine lv_i2l (v := (s70.1 15 v69.toNatClampNeg).toInt64) hx hb dX8_digest_57 rfl ?_
        refine lv_ladd hx hb dX8_digest_58 ?_
        refine lv_ldc2 (v := 31) hx hb hown l_c291 dX8_digest_59 ?_
        refine lv_lmul hx hb dX8_digest_62 ?_
        refine lv_aload_n hx hb dX8_digest_63 rfl (lv_at hl 0 rfl) ?_
        refine gfX8_firsts hx hb h_X8 hown hK hP l_f23 dX8_digest_64 ?_
        refine lv_iload_n hx hb dX8_digest_67 rfl (lv_at hl 2 rfl) ?_
        obtain ⟨hi, hm⟩ := ok_I hm
        refine ldM_4 hx hb hK hP hi dX8_digest_68 ?_
        refine lv_i2l (v := (s70.1 16 v69.toNatClampNeg).toInt64) hx hb dX8_digest_69 rfl ?_
        refine lv_ladd hx hb dX8_digest_70 ?_
        refine lv_ldc2 (v := 31) hx hb hown l_c291 dX8_digest_71 ?_
        refine lv_lmul hx hb dX8_digest_74 ?_
        refine lv_aload_n hx hb dX8_digest_75 rfl (lv_at hl 0 rfl) ?_
        refine gfX8_seconds hx hb h_X8 hown hK hP l_f26 dX8_digest_76 ?_
        refine lv_iload_n hx hb dX8_digest_79 rfl (lv_at hl 2 rfl) ?_
        obtain ⟨hi, hm⟩ := ok_I hm
        refine ldM_5 hx hb hK hP hi dX8_digest_80 ?_
        refine lv_i2l (v := (s70.1 17 v69.toNatClampNeg).toInt64) hx hb dX8_digest_81 rfl ?_
        refine lv_ladd hx hb dX8_digest_82 ?_
        refine lv_topl (fun x72 ex72 => ?_)
        have hm := bnd_x ex72 hm
        refine lv_lstore_n (lv' := [(1, .long x72), (0, .ref (a 0)), (3, .int v69)]) hx hb dX8_digest_83 rfl hl (by decide) rfl (fun ls hl => ?_)
        obtain ⟨x73, ex73⟩ : ∃ z : Int32, z = v69 + 1 := ⟨_, rfl⟩
        have hm := bnd_x ex73 hm
        refine lv_iinc (v := x73) (lv' := [(3, .int x73), (1, .long x72), (0, .ref (a 0))]) hx hb dX8_digest_84 hl (k := 2) rfl (by rw [ex73]; rfl) (by decide) rfl (fun ls hl => ?_)
        refine lv_goto (tgt := 38) hx hb dX8_digest_87 (by decide) ?_
        exact ih38 s70 x72 x73 _ _ _ hP hS (lv_sub hl [2, 1, 0] rfl) hm
  have L_36 : ∀ (s75 : St) (v74 : Int64) (H : Heap) (locs : List Loc) (ls : Array Slot), va_P D vwCl (wM y a s75) H → va_S (AC a 30 s.heap.size) s.heap H locs → lv_has ls 5 [(0, .ref (a 0)), (1, .long v74)] → mX8_digest_36 s75 v74 = some (r, τ) → W p l e (headSpec zX8_digest ({ frames := 4, cells := 146, slots := 1042, locals := 89 })).room s m ([.ref (a 0)] : List Value).toArray below meth c H locs 10 90 (MQ below (va_Ql (fun r' u => r' = r ∧ u = τ) (posW (wM y a) D) (AC a 30 s.heap.size)) ([.ref (a 0)] : List Value).toArray s 146 1042 (AC a 30 s.heap.size)) (F0 m 36 ls []) := by
    intro s75 v74 H locs ls hP hS hl hm
    unfold mX8_digest_36 at hm
    refine lv_iconst (v := 0) hx hb dX8_digest_36 (by decide) ?_
    refine lv_istore_n (lv' := [(3, .int 0), (0, .ref (a 0)), (1, .long v74)]) hx hb dX8_digest_37 rfl hl (by decide) rfl (fun ls hl => ?_)
    exact L_38 NF s75 v74 0 _ _ _ hP hS (lv_sub hl [1, 2, 0] rfl) hm
  have L_11 : ∀ (n11 : Nat) (hn11 : n11 ≤ 10) (s78 : St) (v76 : Int64) (v77 : Int32) (H : Heap) (locs : List Loc) (ls : Array Slot), va_P D vwCl (wM y a s78) H → va_S (AC a 30 s.heap.size) s.heap H locs → lv_has ls 5 [(0, .ref (a 0)), (1, .long v76), (3, .int v77)] → mX8_digest_11 n11 s78 v76 v77 = some (r, τ) → W p l e (headSpec zX8_digest ({ frames := 4, cells := 146, slots := 1042, locals := 89 })).room s m ([.ref (a 0)] : List Value).toArray below meth c H locs (0 + 1 * (10 - n11)) (0 + 9 * (10 - n11)) (MQ below (va_Ql (fun r' u => r' = r ∧ u = τ) (posW (wM y a) D) (AC a 30 s.heap.size)) ([.ref (a 0)] : List Value).toArray s 146 1042 (AC a 30 s.heap.size)) (F0 m 11 ls []) := by
    intro n11
    induction n11 with
    | zero =>
      intro _ s78 v76 v77 H locs ls hP hS hl hm
      exact absurd (show (none : Option (Int64 × St)) = some (r, τ) from hm) (by intro h; cases h)
    | succ n11 ih11 =>
      intro hn11
      obtain ⟨kh11, ekh11⟩ : ∃ z, z = mX8_digest_11 n11 := ⟨_, rfl⟩
      have ih11 : ∀ (s78 : St) (v76 : Int64) (v77 : Int32) (H : Heap) (locs : List Loc) (ls : Array Slot), va_P D vwCl (wM y a s78) H → va_S (AC a 30 s.heap.size) s.heap H locs → lv_has ls 5 [(0, .ref (a 0)), (1, .long v76), (3, .int v77)] → kh11 s78 v76 v77 = some (r, τ) → W p l e (headSpec zX8_digest ({ frames := 4, cells := 146, slots := 1042, locals := 89 })).room s m ([.ref (a 0)] : List Value).toArray below meth c H locs (0 + 1 * (10 - n11)) (0 + 9 * (10 - n11)) (MQ below (va_Ql (fun r' u => r' = r ∧ u = τ) (posW (wM y a) D) (AC a 30 s.heap.size)) ([.ref (a 0)] : List Value).toArray s 146 1042 (AC a 30 s.heap.size)) (F0 m 11 ls []) := by rw [ekh11]; exact ih11 (by omega)
      intro s78 v76 v77 H locs ls hP hS hl hm
      have hm : bX8_digest_11 (mX8_digest_11 n11) s78 v76 v77 = some (r, τ) := hm
      show W p l e (headSpec zX8_digest ({ frames := 4, cells := 146, slots := 1042, locals := 89 })).room s m ([.ref (a 0)] : List Value).toArray below meth c H locs (0 + 1 * (10 - (n11 + 1))) (0 + 9 * (10 - (n11 + 1))) (MQ below (va_Ql (fun r' u => r' = r ∧ u = τ) (posW (wM y a) D) (AC a 30 s.heap.size)) ([.ref (a 0)] : List Value).toArray s 146 1042 (AC a 30 s.heap.size)) (F0 m 11 ls [])
      rw [← ekh11] at hm
      unfold bX8_digest_11 at hm
      refine lv_iload_n hx hb dX8_digest_11 rfl (lv_at hl 2 rfl) ?_
      refine lv_bipush (v := 9) hx hb dX8_digest_12 (by decide) ?_
      refine lv_icmp_ge (tgt := 36) hx hb dX8_digest_14 (by decide) (fun c79 => ?_) (fun c79 => ?_)
      · have hm := (if_pos c79).symm.trans hm
        refine W.widen (k := 10) (n := 90) (by omega) (by omega) ?_
        exact L_36 s78 v76 _ _ _ hP hS (lv_sub hl [0, 1] rfl) hm
      · have hm := (if_neg c79).symm.trans hm
        refine lv_lload_n hx hb dX8_digest_17 rfl (lv_at hl 1 rfl) ?_
        refine lv_ldc2 (v := 31) hx hb hown l_c291 dX8_digest_18 ?_
        refine lv_lmul hx hb dX8_digest_21 ?_
        refine lv_aload_n hx hb dX8_digest_22 rfl (lv_at hl 0 rfl) ?_
        refine lv_iload_n hx hb dX8_digest_23 rfl (lv_at hl 2 rfl) ?_
        obtain ⟨⟨r80, s82⟩, h81, hm⟩ := ok_bind hm
        refine calV_iA (As := [.int v77]) (rest := [.long (v76 * 31)]) ⟨hx, hb, hml, hown, hts⟩ (kX8_counted l D y a t hI _ s78 s82 v77 r80 h81) (cwV 1 hts (gAV aM_X8_268 aI_X8_counted aS_X8_counted aN_X8 aC_X8_counted) rfl rfl rfl eX8_counted ⟨Nat.le_of_ble_eq_true rfl, Nat.le_of_ble_eq_true rfl⟩) (preV_W (ci := 8) (q := (RX8, TX8, 42)) hK hP hF hS rfl (wM_0 y a s78)) rfl hl.1 rfl (Nat.le_of_ble_eq_true rfl) dX8_digest_24 ⟨by show 0 + 1 * (10 - (n11 + 1)) + 1 ≤ 146; omega, by show 0 + 9 * (10 - (n11 + 1)) + 9 ≤ 1042; omega⟩ hS (AC_le hS.1) (fun H locs hP hS hk1 => ?_)
        refine W.widen (k := 1 + 1 * (10 - (n11 + 1))) (n := 9 + 9 * (10 - (n11 + 1))) (by omega) (by omega) ?_
        refine lv_i2l (v := r80.toInt64) hx hb dX8_digest_27 rfl ?_
        refine lv_ladd hx hb dX8_digest_28 ?_
        refine lv_topl (fun x83 ex83 => ?_)
        have hm := bnd_x ex83 hm
        refine lv_lstore_n (lv' := [(1, .long x83), (0, .ref (a 0)), (3, .int v77)]) hx hb dX8_digest_29 rfl hl (by decide) rfl (fun ls hl => ?_)
        obtain ⟨x84, ex84⟩ : ∃ z : Int32, z = v77 + 1 := ⟨_, rfl⟩
        have hm := bnd_x ex84 hm
        refine lv_iinc (v := x84) (lv' := [(3, .int x84), (1, .long x83), (0, .ref (a 0))]) hx hb dX8_digest_30 hl (k := 2) rfl (by rw [ex84]; rfl) (by decide) rfl (fun ls hl => ?_)
        refine lv_goto (tgt := 11) hx hb dX8_digest_33 (by decide) ?_
        refine W.widen (k := 0 + 1 * (10 - n11)) (n := 0 + 9 * (10 - n11)) (by omega) (by omega) ?_
        exact ih11 s82 x83 x84 _ _ _ hP hS (lv_sub hl [2, 1, 0] rfl) hm
  unfold mX8_digest at hm
  refine lv_aload_n hx hb dX8_digest_0 rfl (lv_at hl 0 rfl) ?_
  refine lv_iconst (v := 0) hx hb dX8_digest_1 (by decide) ?_
  refine pfX8_thrown hx hb h_X8 hown hK hP hI AC_in hS l_f106 dX8_digest_2 (fun H locs hP hS => ?_)
  generalize es85 : su σ 0 (fun _ => 0) = s85 at hP
  have hm := bnd_x es85.symm hm
  refine lv_ldc2 (v := 419) hx hb hown l_c289 dX8_digest_5 ?_
  refine lv_lstore_n (lv' := [(1, .long 419), (0, .ref (a 0))]) hx hb dX8_digest_8 rfl hl (by decide) rfl (fun ls hl => ?_)
  refine lv_iconst (v := 0) hx hb dX8_digest_9 (by decide) ?_
  refine lv_istore_n (lv' := [(3, .int 0), (1, .long 419), (0, .ref (a 0))]) hx hb dX8_digest_10 rfl hl (by decide) rfl (fun ls hl => ?_)
  exact L_11 10 (Nat.le_refl _) s85 419 0 _ _ _ hP hS (lv_sub hl [2, 1, 0] rfl) hm
