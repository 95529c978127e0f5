theorem eX8_thrown : yX8_thrown.cls = RX8 ∧ yX8_thrown.cls ≠ "java/lang/invoke/MethodHandle" ∧ yX8_thrown.cls ≠ "java/lang/invoke/VarHandle" ∧ (parseMethodDescriptor yX8_thrown.desc).map (fun d => d.parameters.length) = some 0 := by decide +kernel
def mX8_thrown (σ : St) : Option Int32 :=
some (σ.1 0 0)
set_option maxHeartbeats 4000000 in
set_option maxRecDepth 100000 in
theorem kX8_thrown (l : Launch) (D : va_G) (y : Nat → ClassId) (a t : Nat → Nat) (hI : AI a 30) (sz : Nat) (σ : St) (r : Int32) (hm : mX8_thrown σ = some r) : Met l yX8_thrown zX8_thrown { frames := 0, cells := 0, slots := 0, locals := 0 } (va_Pc [.ref (a 0)] (preW (wM y a) a 30 D y t σ sz)) (va_Qi (fun r' u => r' = r ∧ u = σ) (posW (wM y a) D) (AC a 30 sz)) 0 0 (AC a 30 sz) := by
  refine Met.ofW (cc := cX8_thrown) (maxL := 1) (ret := (some .int)) (by decide) rfl ?_
  intro p e s m args below meth c s₁ B hml hv
  obtain ⟨rfl, hsz, hP, hK, hF⟩ := hv
  have hx := B.exec
  have hb := B.bytes
  have hr := B.returns
  have hts := atoms_spec (ws := zX8_thrown) B.pre
  have hown : s.vm.findClass RX8 = some m.cls := findClass_of_methodNamed B.named
  have hlocks := B.notSynchronized
  subst hsz
  have l_f106 := hts _ (List.mem_cons_of_mem _ aF_X8_106)
  have h_X8 : ∀ w ∈ wsX80, w.before _ s = true := fun w hw => hts w (List.mem_cons_of_mem _ (hwX8 w hw))
  have hS : va_S (AC a 30 s.heap.size) s.heap s.heap [] := va_S.rf
  have hl := lv_entry ([.ref (a 0)]) (n := 1) (Nat.le_of_ble_eq_true rfl)
  rw [lg_entry_eq]
  generalize (lg_sl ([.ref (a 0)]) ++ List.replicate (1 - (lg_sl ([.ref (a 0)])).length) Slot.unset).toArray = ls at hl ⊢
  have hl : lv_has ls 1 [(0, .ref (a 0))] := hl
  unfold mX8_thrown at hm
  refine lv_aload_n hx hb dX8_thrown_0 rfl (lv_at hl 0 rfl) ?_
  refine gfX8_thrown hx hb h_X8 hown hK hP l_f106 dX8_thrown_1 ?_
  exact W.iret (v := σ.1 0 0) hx hb hr (fun T hT hW => ⟨⟨σ.1 0 0, σ, rfl, ⟨Option.some.inj hm, rfl⟩, by rw [posW, hT]; exact hP⟩, hS.F hT⟩) hS.2.2 dX8_thrown_4
theorem eX8_no : yX8_no.cls = RX8 ∧ yX8_no.cls ≠ "java/lang/invoke/MethodHandle" ∧ yX8_no.cls ≠ "java/lang/invoke/VarHandle" ∧ (parseMethodDescriptor yX8_no.desc).map (fun d => d.parameters.length) = some 1 := by decide +kernel
def mX8_no (σ : St) (p1 : Int32) : Option (Int32 × St) :=
bnd (su σ 0 (fun _ => p1)) fun s1 =>
some (0, s1)
set_option maxHeartbeats 4000000 in
set_option maxRecDepth 100000 in
theorem kX8_no (l : Launch) (D : va_G) (y : Nat → ClassId) (a t : Nat → Nat) (hI : AI a 30) (sz : Nat) (σ τ : St) (p1 : Int32) (r : Int32) (hm : mX8_no σ p1 = some (r, τ)) : Met l yX8_no zX8_no { frames := 0, cells := 0, slots := 0, locals := 0 } (va_Pc [.ref (a 0), .int p1] (preW (wM y a) a 30 D y t σ sz)) (va_Qi (fun r' u => r' = r ∧ u = τ) (posW (wM y a) D) (AC a 30 sz)) 0 0 (AC a 30 sz) := by
  refine Met.ofW (cc := cX8_no) (maxL := 2) (ret := (some .int)) (by decide) rfl ?_
  intro p e s m args below meth c s₁ B hml hv
  obtain ⟨rfl, hsz, hP, hK, hF⟩ := hv
  have hx := B.exec
  have hb := B.bytes
  have hr := B.returns
  have hts := atoms_spec (ws := zX8_no) B.pre
  have hown : s.vm.findClass RX8 = some m.cls := findClass_of_methodNamed B.named
  have hlocks := B.notSynchronized
  subst hsz
  have l_f106 := hts _ (List.mem_cons_of_mem _ aF_X8_106)
  have h_X8 : ∀ w ∈ wsX80, w.before _ s = true := fun w hw => hts w (List.mem_cons_of_mem _ (hwX8 w hw))
  have hS : va_S (AC a 30 s.heap.size) s.heap s.heap [] := va_S.rf
  have hl := lv_entry ([.ref (a 0), .int p1]) (n := 2) (Nat.le_of_ble_eq_true rfl)
  rw [lg_entry_eq]
  generalize (lg_sl ([.ref (a 0), .int p1]) ++ List.replicate (2 - (lg_sl ([.ref (a 0), .int p1])).length) Slot.unset).toArray = ls at hl ⊢
  have hl : lv_has ls 2 [(0, .ref (a 0)), (1, .int p1)] := hl
  unfold mX8_no at hm
  refine lv_aload_n hx hb dX8_no_0 rfl (lv_at hl 0 rfl) ?_
  refine lv_iload_n hx hb dX8_no_1 rfl (lv_at hl 1 rfl) ?_
  refine pfX8_thrown hx hb h_X8 hown hK hP hI AC_in hS l_f106 dX8_no_2 (fun H locs hP hS => ?_)
  generalize es1 : su σ 0 (fun _ => p1) = s1 at hP
  have hm := bnd_x es1.symm hm
  refine lv_iconst (v := 0) hx hb dX8_no_5 (by decide) ?_
  exact W.iret (v := 0) hx hb hr (fun T hT hW => ⟨⟨0, s1, rfl, ⟨congrArg Prod.fst (Option.some.inj hm), congrArg Prod.snd (Option.some.inj hm)⟩, by rw [posW, hT]; exact hP⟩, hS.F hT⟩) hS.2.2 dX8_no_6
theorem eX8_isIn : yX8_isIn.cls ≠ "java/lang/invoke/MethodHandle" ∧ yX8_isIn.cls ≠ "java/lang/invoke/VarHandle" ∧ (parseMethodDescriptor yX8_isIn.desc).map (fun d => d.parameters.length) = some 3 := by decide +kernel
def mX8_isIn (σ : St) (p1 : Int32) (p2 : Int32) (p3 : Int32) : Option Int32 :=
if p1 < p2 then (
some 0)
else (
if p3 < p1 then (
some 0)
else (
some 1))
set_option maxHeartbeats 4000000 in
set_option maxRecDepth 100000 in
theorem kX8_isIn (l : Launch) (D : va_G) (y : Nat → ClassId) (a t : Nat → Nat) (hI : AI a 30) (sz : Nat) (σ : St) (p1 : Int32) (p2 : Int32) (p3 : Int32) (r : Int32) (hm : mX8_isIn σ p1 p2 p3 = some r) : Met l yX8_isIn zX8_isIn { frames := 0, cells := 0, slots := 0, locals := 0 } (va_Pc [.int p1, .int p2, .int p3] (preW (wM y a) a 30 D y t σ sz)) (va_Qi (fun r' u => r' = r ∧ u = σ) (posW (wM y a) D) (AC a 30 sz)) 0 0 (AC a 30 sz) := by
  refine Met.ofW (cc := cX8_isIn) (maxL := 3) (ret := (some .boolean)) (by decide) rfl ?_
  intro p e s m args below meth c s₁ B hml hv
  obtain ⟨rfl, hsz, hP, hK, hF⟩ := hv
  have hx := B.exec
  have hb := B.bytes
  have hr := B.returns
  have hts := atoms_spec (ws := zX8_isIn) B.pre
  have hown : s.vm.findClass RX8 = some m.cls := findClass_of_methodNamed B.named
  have hlocks := B.notSynchronized
  subst hsz
  have hS : va_S (AC a 30 s.heap.size) s.heap s.heap [] := va_S.rf
  have hl := lv_entry ([.int p1, .int p2, .int p3]) (n := 3) (Nat.le_of_ble_eq_true rfl)
  rw [lg_entry_eq]
  generalize (lg_sl ([.int p1, .int p2, .int p3]) ++ List.replicate (3 - (lg_sl ([.int p1, .int p2, .int p3])).length) Slot.unset).toArray = ls at hl ⊢
  have hl : lv_has ls 3 [(0, .int p1), (1, .int p2), (2, .int p3)] := hl
  unfold mX8_isIn at hm
  refine lv_iload_n hx hb dX8_isIn_0 rfl (lv_at hl 0 rfl) ?_
  refine lv_iload_n hx hb dX8_isIn_1 rfl (lv_at hl 1 rfl) ?_
  refine lv_icmp_lt (tgt := 14) hx hb dX8_isIn_2 (by decide) (fun c1 => ?_) (fun c1 => ?_)
  · have hm := (if_pos c1).symm.trans hm
    refine lv_iconst (v := 0) hx hb dX8_isIn_14 (by decide) ?_
    exact W.zret (v := 0) hx hb hr rfl (fun T hT hW => ⟨⟨0, σ, rfl, ⟨Option.some.inj hm, rfl⟩, by rw [posW, hT]; exact hP⟩, hS.F hT⟩) hS.2.2 dX8_isIn_15
  · have hm := (if_neg c1).symm.trans hm
    refine lv_iload_n hx hb dX8_isIn_5 rfl (lv_at hl 0 rfl) ?_
    refine lv_iload_n hx hb dX8_isIn_6 rfl (lv_at hl 2 rfl) ?_
    refine lv_icmp_gt (tgt := 14) hx hb dX8_isIn_7 (by decide) (fun c2 => ?_) (fun c2 => ?_)
    · have hm := (if_pos c2).symm.trans hm
      refine lv_iconst (v := 0) hx hb dX8_isIn_14 (by decide) ?_
      exact W.zret (v := 0) hx hb hr rfl (fun T hT hW => ⟨⟨0, σ, rfl, ⟨Option.some.inj hm, rfl⟩, by rw [posW, hT]; exact hP⟩, hS.F hT⟩) hS.2.2 dX8_isIn_15
    · have hm := (if_neg c2).symm.trans hm
      refine lv_iconst (v := 1) hx hb dX8_isIn_10 (by decide) ?_
      refine lv_goto (tgt := 15) hx hb dX8_isIn_11 (by decide) ?_
      exact W.zret (v := 1) hx hb hr rfl (fun T hT hW => ⟨⟨1, σ, rfl, ⟨Option.some.inj hm, rfl⟩, by rw [posW, hT]; exact hP⟩, hS.F hT⟩) hS.2.2 dX8_isIn_15
theorem eX8_isFormula : yX8_isFormula.cls = RX8 ∧ yX8_isFormula.cls ≠ "java/lang/invoke/MethodHandle" ∧ yX8_isFormula.cls ≠ "java/lang/invoke/VarHandle" ∧ (parseMethodDescriptor yX8_isFormula.desc).map (fun d => d.parameters.length) = some 1 := by decide +kernel
def mX8_isFormula (σ : St) (p1 : Int32) : Option Int32 :=
(mX8_isIn σ p1 0 ((σ.1 5 0) - 1)).bind fun r1 =>
chkZ r1 (some r1)
set_option maxHeartbeats 4000000 in
set_option maxRecDepth 100000 in
theorem kX8_isFormula (l : Launch) (D : va_G) (y : Nat → ClassId) (a t : Nat → Nat) (hI : AI a 30) (sz : Nat) (σ : St) (p1 : Int32) (r : Int32) (hm : mX8_isFormula σ p1 = some r) : Met l yX8_isFormula zX8_isFormula { frames := 1, cells := 0, slots := 0, locals := 22 } (va_Pc [.ref (a 0), .int p1] (preW (wM y a) a 30 D y t σ sz)) (va_Qi (fun r' u => r' = r ∧ u = σ) (posW (wM y a) D) (AC a 30 sz)) 0 0 (AC a 30 sz) := by
  refine Met.ofW (cc := cX8_isFormula) (maxL := 2) (ret := (some .boolean)) (by decide) rfl ?_
  intro p e s m args below meth c s₁ B hml hv
  obtain ⟨rfl, hsz, hP, hK, hF⟩ := hv
  have hx := B.exec
  have hb := B.bytes
  have hr := B.returns
  have hts := atoms_spec (ws := zX8_isFormula) B.pre
  have hown : s.vm.findClass RX8 = some m.cls := findClass_of_methodNamed B.named
  have hlocks := B.notSynchronized
  subst hsz
  have l_f109 := hts _ (List.mem_cons_of_mem _ aF_X8_109)
  have h_X8 : ∀ w ∈ wsX80, w.before _ s = true := fun w hw => hts w (List.mem_cons_of_mem _ (hwX8 w hw))
  have hS : va_S (AC a 30 s.heap.size) s.heap s.heap [] := va_S.rf
  have hl := lv_entry ([.ref (a 0), .int p1]) (n := 2) (Nat.le_of_ble_eq_true rfl)
  rw [lg_entry_eq]
  generalize (lg_sl ([.ref (a 0), .int p1]) ++ List.replicate (2 - (lg_sl ([.ref (a 0), .int p1])).length) Slot.unset).toArray = ls at hl ⊢
  have hl : lv_has ls 2 [(0, .ref (a 0)), (1, .int p1)] := hl
  unfold mX8_isFormula at hm
  refine lv_iload_n hx hb dX8_isFormula_0 rfl (lv_at hl 1 rfl) ?_
  refine lv_iconst (v := 0) hx hb dX8_isFormula_1 (by decide) ?_
  refine lv_aload_n hx hb dX8_isFormula_2 rfl (lv_at hl 0 rfl) ?_
  refine gfX8_formulas hx hb h_X8 hown hK hP l_f109 dX8_isFormula_3 ?_
  refine lv_iconst (v := 1) hx hb dX8_isFormula_6 (by decide) ?_
  refine lv_isub hx hb dX8_isFormula_7 ?_
  obtain ⟨r1, h2, hm⟩ := ok_bind hm
  refine calS_i (As := [.int p1, .int 0, .int ((σ.1 5 0) - 1)]) (rest := []) ⟨hx, hb, hml, hown, hts⟩ (kX8_isIn l D y a t hI _ σ p1 0 ((σ.1 5 0) - 1) r1 h2) (va_cwS 3 hts (gAS aM_X8_112 aT_X8_isIn aN_X8 aC_X8_isIn) rfl rfl rfl eX8_isIn ⟨Nat.le_of_ble_eq_true rfl, Nat.le_of_ble_eq_true rfl⟩) (preS_W hK hP hF hS) rfl hl.1 rfl (Nat.le_of_ble_eq_true rfl) dX8_isFormula_8 ⟨Nat.zero_le _, Nat.zero_le _⟩ hS (AC_le hS.1) (fun H locs hP hS hk1 => ?_)
  obtain ⟨hz, hm⟩ := ok_Z hm
  exact W.zret (v := r1) hx hb hr hz (fun T hT hW => ⟨⟨r1, σ, rfl, ⟨Option.some.inj hm, rfl⟩, by rw [posW, hT]; exact hP⟩, hS.F hT⟩) hS.2.2 dX8_isFormula_11
theorem eX8_feed : yX8_feed.cls = RX8 ∧ yX8_feed.cls ≠ "java/lang/invoke/MethodHandle" ∧ yX8_feed.cls ≠ "java/lang/invoke/VarHandle" ∧ (parseMethodDescriptor yX8_feed.desc).map (fun d => d.parameters.length) = some 5 := by decide +kernel
def mX8_feed_122 (kh63 : St → Int32 → Int32 → Option (Int32 × St)) (s3 : St) (v1 : Int32) (v2 : Int32) : Option (Int32 × St) :=
bnd (v2 + 1) fun x4 =>
kh63 s3 v1 x4
def bX8_feed_80 (kh63 : St → Int32 → Int32 → Option (Int32 × St)) (kh80 : St → Int32 → Int32 → Int32 → Int32 → Option (Int32 × St)) (s9 : St) (v5 : Int32) (v6 : Int32) (v7 : Int32) (v8 : Int32) : Option (Int32 × St) :=
if v8 < 0 then (
mX8_feed_122 kh63 s9 v5 v6)
else (
chkI (s9.1 1 0) 400 (
bnd (su s9 13 (upd (s9.1 13) (s9.1 1 0).toNatClampNeg ((v7 >>> ((8 * v8) &&& 31)) &&& 255))) fun s11 =>
bnd (su s11 1 (fun _ => (s11.1 1 0) + 1)) fun s12 =>
bnd (v8 + (-1)) fun x13 =>
kh80 s12 v5 v6 v7 x13))
abbrev mX8_feed_80 (kh63 : St → Int32 → Int32 → Option (Int32 × St)) (n : Nat) : St → Int32 → Int32 → Int32 → Int32 → Option (Int32 × St) := fx (fun _ _ _ _ _ => none) (bX8_feed_80 kh63) n
def bX8_feed_63 (kh63 : St → Int32 → Int32 → Option (Int32 × St)) (s16 : St) (v14 : Int32) (v15 : Int32) : Option (Int32 × St) :=
if v14 ≤ v15 then (
some (s16.1 1 0, s16))
else (
chkI v15 5 (
bnd (s16.1 42 v15.toNatClampNeg) fun x18 =>
mX8_feed_80 kh63 NF s16 v14 v15 x18 3))
abbrev mX8_feed_63 (n : Nat) : St → Int32 → Int32 → Option (Int32 × St) := fx (fun _ _ _ => none) (bX8_feed_63) n
def mX8_feed (σ : St) (p1 : Int32) (p2 : Int32) (p3 : Int32) (p4 : Int32) (p5 : Int32) : Option (Int32 × St) :=
bnd (su σ 0 (fun _ => 0)) fun s19 =>
if ((s19.1 1 0) + 20) ≤ 400 then (
bnd (su s19 42 (fun _ => 0)) fun s21 =>
chkI 0 5 (
bnd (su s21 42 (upd (s21.1 42) (0 : Int32).toNatClampNeg p1)) fun s22 =>
chkI 1 5 (
bnd (su s22 42 (upd (s22.1 42) (1 : Int32).toNatClampNeg p2)) fun s23 =>
chkI 2 5 (
bnd (su s23 42 (upd (s23.1 42) (2 : Int32).toNatClampNeg p3)) fun s24 =>
chkI 3 5 (
bnd (su s24 42 (upd (s24.1 42) (3 : Int32).toNatClampNeg p4)) fun s25 =>
chkI 4 5 (
bnd (su s25 42 (upd (s25.1 42) (4 : Int32).toNatClampNeg p5)) fun s26 =>
mX8_feed_63 NF s26 5 0))))))
else (
(mX8_no s19 1).bind fun ⟨r27, s29⟩ =>
some (r27, s29))
set_option maxHeartbeats 4000000 in
set_option maxRecDepth 100000 in
theorem kX8_feed (l : Launch) (D : va_G) (y : Nat → ClassId) (a t : Nat → Nat) (hI : AI a 30) (sz : Nat) (σ τ : St) (p1 : Int32) (p2 : Int32) (p3 : Int32) (p4 : Int32) (p5 : Int32) (r : Int32) (hm : mX8_feed σ p1 p2 p3 p4 p5 = some (r, τ)) : Met l yX8_feed zX8_feed { frames := 1, cells := 1, slots := 5, locals := 21 } (va_Pc [.ref (a 0), .int p1, .int p2, .int p3, .int p4, .int p5] (preW (wM y a) a 30 D y t σ sz)) (va_Qi (fun r' u => r' = r ∧ u = τ) (posW (wM y a) D) (AC a 30 sz)) 1 5 (AC a 30 sz) := by
  refine Met.ofW (cc := cX8_feed) (maxL := 12) (ret := (some .int)) (by decide) rfl ?_
  intro p e s m args below meth c s₁ B hml hv
  obtain ⟨rfl, hsz, hP, hK, hF⟩ := hv
  have hx := B.exec
  have hb := B.bytes
  have hr := B.returns
  have hts := atoms_spec (ws := zX8_feed) B.pre
  have hown : s.vm.findClass RX8 = some m.cls := findClass_of_methodNamed B.named
  have hlocks := B.notSynchronized
  subst hsz
  have l_f106 := hts _ (List.mem_cons_of_mem _ aF_X8_106)
  have l_f116 := hts _ (List.mem_cons_of_mem _ aF_X8_116)
  have l_arr := hts _ (List.mem_cons_of_mem _ aA_int)
  have l_f9 := hts _ (List.mem_cons_of_mem _ aF_X8_9)
  have h_X8 : ∀ w ∈ wsX80, w.before _ s = true := fun w hw => hts w (List.mem_cons_of_mem _ (hwX8 w hw))
  have hS : va_S (AC a 30 s.heap.size) s.heap s.heap [] := va_S.rf
  have hl := lv_entry ([.ref (a 0), .int p1, .int p2, .int p3, .int p4, .int p5]) (n := 12) (Nat.le_of_ble_eq_true rfl)
  rw [lg_entry_eq]
  generalize (lg_sl ([.ref (a 0), .int p1, .int p2, .int p3, .int p4, .int p5]) ++ List.replicate (12 - (lg_sl ([.ref (a 0), .int p1, .int p2, .int p3, .int p4, .int p5])).length) Slot.unset).toArray = ls at hl ⊢
  have hl : lv_has ls 12 [(0, .ref (a 0)), (1, .int p1), (2, .int p2), (3, .int p3), (4, .int p4), (5, .int p5)] := hl
  have L_63 : ∀ (n : Nat) (s16 : St) (v14 : Int32) (v15 : Int32) (q : Nat) (hIq : AI (ax a q) 31) (hAq : ∀ k, k < 31 → AC a 30 s.heap.size (ax a q k)) (H : Heap) (locs : List Loc) (ls : Array Slot), va_P D vwCl (wN 5 y a q s16) H → va_S (AC a 30 s.heap.size) s.heap H locs → lv_has ls 12 [(0, .ref (a 0)), (7, .ref q), (8, .int v14), (9, .int v15)] → mX8_feed_63 n s16 v14 v15 = some (r, τ) → W p l e (headSpec zX8_feed ({ frames := 1, cells := 1, slots := 5, locals := 21 })).room s m ([.ref (a 0), .int p1, .int p2, .int p3, .int p4, .int p5] : List Value).toArray below meth c H locs 1 5 (MQ below (va_Qi (fun r' u => r' = r ∧ u = τ) (posW (wM y a) D) (AC a 30 s.heap.size)) ([.ref (a 0), .int p1, .int p2, .int p3, .int p4, .int p5] : List Value).toArray s 1 5 (AC a 30 s.heap.size)) (F0 m 63 ls []) := by
    intro n
    induction n with
    | zero =>
      intro s16 v14 v15 q hIq hAq H locs ls hP hS hl hm
      exact absurd (show (none : Option (Int32 × St)) = some (r, τ) from hm) (by intro h; cases h)
    | succ n ih63 =>
      obtain ⟨kh63, ekh63⟩ : ∃ z, z = mX8_feed_63 n := ⟨_, rfl⟩
      have ih63 : ∀ (s16 : St) (v14 : Int32) (v15 : Int32) (q : Nat) (hIq : AI (ax a q) 31) (hAq : ∀ k, k < 31 → AC a 30 s.heap.size (ax a q k)) (H : Heap) (locs : List Loc) (ls : Array Slot), va_P D vwCl (wN 5 y a q s16) H → va_S (AC a 30 s.heap.size) s.heap H locs → lv_has ls 12 [(0, .ref (a 0)), (7, .ref q), (8, .int v14), (9, .int v15)] → kh63 s16 v14 v15 = some (r, τ) → W p l e (headSpec zX8_feed ({ frames := 1, cells := 1, slots := 5, locals := 21 })).room s m ([.ref (a 0), .int p1, .int p2, .int p3, .int p4, .int p5] : List Value).toArray below meth c H locs 1 5 (MQ below (va_Qi (fun r' u => r' = r ∧ u = τ) (posW (wM y a) D) (AC a 30 s.heap.size)) ([.ref (a 0), .int p1, .int p2, .int p3, .int p4, .int p5] : List Value).toArray s 1 5 (AC a 30 s.heap.size)) (F0 m 63 ls []) := by rw [ekh63]; exact ih63
      have L_122 : ∀ (s3 : St) (v1 : Int32) (v2 : Int32) (q : Nat) (hIq : AI (ax a q) 31) (hAq : ∀ k, k < 31 → AC a 30 s.heap.size (ax a q k)) (H : Heap) (locs : List Loc) (ls : Array Slot), va_P D vwCl (wN 5 y a q s3) H → va_S (AC a 30 s.heap.size) s.heap H locs → lv_has ls 12 [(0, .ref (a 0)), (7, .ref q), (8, .int v1), (9, .int v2)] → mX8_feed_122 kh63 s3 v1 v2 = some (r, τ) → W p l e (headSpec zX8_feed ({ frames := 1, cells := 1, slots := 5, locals := 21 })).room s m ([.ref (a 0), .int p1, .int p2, .int p3, .int p4, .int p5] : List Value).toArray below meth c H locs 1 5 (MQ below (va_Qi (fun r' u => r' = r ∧ u = τ) (posW (wM y a) D) (AC a 30 s.heap.size)) ([.ref (a 0), .int p1, .int p2, .int p3, .int p4, .int p5] : List Value).toArray s 1 5 (AC a 30 s.heap.size)) (F0 m 122 ls []) := by
        intro s3 v1 v2 q hIq hAq H locs ls hP hS hl hm
        unfold mX8_feed_122 at hm
        obtain ⟨x4, ex4⟩ : ∃ z : Int32, z = v2 + 1 := ⟨_, rfl⟩
        have hm := bnd_x ex4 hm
        refine lv_iinc (v := x4) (lv' := [(9, .int x4), (0, .ref (a 0)), (7, .ref q), (8, .int v1)]) hx hb dX8_feed_122 hl (k := 3) rfl (by rw [ex4]; rfl) (by decide) rfl (fun ls hl => ?_)
        refine lv_goto (tgt := 63) hx hb dX8_feed_125 (by decide) ?_
        exact ih63 s3 v1 x4 q hIq hAq _ _ _ hP hS (lv_sub hl [1, 2, 3, 0] rfl) hm
      have L_80 : ∀ (n : Nat) (s9 : St) (v5 : Int32) (v6 : Int32) (v7 : Int32) (v8 : Int32) (q : Nat) (hIq : AI (ax a q) 31) (hAq : ∀ k, k < 31 → AC a 30 s.heap.size (ax a q k)) (H : Heap) (locs : List Loc) (ls : Array Slot), va_P D vwCl (wN 5 y a q s9) H → va_S (AC a 30 s.heap.size) s.heap H locs → lv_has ls 12 [(0, .ref (a 0)), (7, .ref q), (8, .int v5), (9, .int v6), (10, .int v7), (11, .int v8)] → mX8_feed_80 kh63 n s9 v5 v6 v7 v8 = some (r, τ) → W p l e (headSpec zX8_feed ({ frames := 1, cells := 1, slots := 5, locals := 21 })).room s m ([.ref (a 0), .int p1, .int p2, .int p3, .int p4, .int p5] : List Value).toArray below meth c H locs 1 5 (MQ below (va_Qi (fun r' u => r' = r ∧ u = τ) (posW (wM y a) D) (AC a 30 s.heap.size)) ([.ref (a 0), .int p1, .int p2, .int p3, .int p4, .int p5] : List Value).toArray s 1 5 (AC a 30 s.heap.size)) (F0 m 80 ls []) := by
        intro n
        induction n with
        | zero =>
          intro s9 v5 v6 v7 v8 q hIq hAq H locs ls hP hS hl hm
          exact absurd (show (none : Option (Int32 × St)) = some (r, τ) from hm) (by intro h; cases h)
        | succ n ih80 =>
          obtain ⟨kh80, ekh80⟩ : ∃ z, z = mX8_feed_80 kh63 n := ⟨_, rfl⟩
          have ih80 : ∀ (s9 : St) (v5 : Int32) (v6 : Int32) (v7 : Int32) (v8 : Int32) (q : Nat) (hIq : AI (ax a q) 31) (hAq : ∀ k, k < 31 → AC a 30 s.heap.size (ax a q k)) (H : Heap) (locs : List Loc) (ls : Array Slot), va_P D vwCl (wN 5 y a q s9) H → va_S (AC a 30 s.heap.size) s.heap H locs → lv_has ls 12 [(0, .ref (a 0)), (7, .ref q), (8, .int v5), (9, .int v6), (10, .int v7), (11, .int v8)] → kh80 s9 v5 v6 v7 v8 = some (r, τ) → W p l e (headSpec zX8_feed ({ frames := 1, cells := 1, slots := 5, locals := 21 })).room s m ([.ref (a 0), .int p1, .int p2, .int p3, .int p4, .int p5] : List Value).toArray below meth c H locs 1 5 (MQ below (va_Qi (fun r' u => r' = r ∧ u = τ) (posW (wM y a) D) (AC a 30 s.heap.size)) ([.ref (a 0), .int p1, .int p2, .int p3, .int p4, .int p5] : List Value).toArray s 1 5 (AC a 30 s.heap.size)) (F0 m 80 ls []) := by rw [ekh80]; exact ih80
          intro s9 v5 v6 v7 v8 q hIq hAq H locs ls hP hS hl hm
          have hm : bX8_feed_80 kh63 (mX8_feed_80 kh63 n) s9 v5 v6 v7 v8 = some (r, τ) := hm
          rw [← ekh80] at hm
          unfold bX8_feed_80 at hm
          refine lv_iload hx hb dX8_feed_80 (lv_at hl 5 rfl) ?_
          refine lv_if_lt (tgt := 122) hx hb dX8_feed_82 (by decide) (fun c10 => ?_) (fun c10 => ?_)
          · have hm := (if_pos c10).symm.trans hm
            exact L_122 s9 v5 v6 q hIq hAq _ _ _ hP hS (lv_sub hl [0, 1, 2, 3] rfl) hm
          · have hm := (if_neg c10).symm.trans hm
            refine lv_aload_n hx hb dX8_feed_85 rfl (lv_at hl 0 rfl) ?_
            refine gfNX8_tape hx hb h_X8 hown hK hP l_f9 dX8_feed_86 ?_
            refine lv_aload_n hx hb dX8_feed_89 rfl (lv_at hl 0 rfl) ?_
            refine gfNX8_length hx hb h_X8 hown hK hP l_f116 dX8_feed_90 ?_
            refine lv_iload hx hb dX8_feed_93 (lv_at hl 4 rfl) ?_
            refine lv_bipush (v := 8) hx hb dX8_feed_95 (by decide) ?_
            refine lv_iload hx hb dX8_feed_97 (lv_at hl 5 rfl) ?_
            refine lv_imul hx hb dX8_feed_99 ?_
            refine lv_ishr hx hb dX8_feed_100 ?_
            refine lv_sipush (v := 255) hx hb dX8_feed_101 (by decide) ?_
            refine lv_iand hx hb dX8_feed_104 ?_
            obtain ⟨hi, hm⟩ := ok_I hm
            refine stN_1 hx hb hK hP hIq hAq hS hi dX8_feed_105 (fun H locs hP hS => ?_)
            generalize es11 : su s9 13 (upd (s9.1 13) (s9.1 1 0).toNatClampNeg ((v7 >>> ((8 * v8) &&& 31)) &&& 255)) = s11 at hP
            have hm := bnd_x es11.symm hm
            refine lv_aload_n hx hb dX8_feed_106 rfl (lv_at hl 0 rfl) ?_
            refine lv_dup hx hb dX8_feed_107 rfl ?_
            refine gfNX8_length hx hb h_X8 hown hK hP l_f116 dX8_feed_108 ?_
            refine lv_iconst (v := 1) hx hb dX8_feed_111 (by decide) ?_
            refine lv_iadd hx hb dX8_feed_112 ?_
            refine pfNX8_length hx hb h_X8 hown hK hP hIq hAq hS l_f116 dX8_feed_113 (fun H locs hP hS => ?_)
            generalize es12 : su s11 1 (fun _ => (s11.1 1 0) + 1) = s12 at hP
            have hm := bnd_x es12.symm hm
            obtain ⟨x13, ex13⟩ : ∃ z : Int32, z = v8 + (-1) := ⟨_, rfl⟩
            have hm := bnd_x ex13 hm
            refine lv_iinc (v := x13) (lv' := [(11, .int x13), (0, .ref (a 0)), (7, .ref q), (8, .int v5), (9, .int v6), (10, .int v7)]) hx hb dX8_feed_116 hl (k := 5) rfl (by rw [ex13]; rfl) (by decide) rfl (fun ls hl => ?_)
            refine lv_goto (tgt := 80) hx hb dX8_feed_119 (by decide) ?_
            exact ih80 s12 v5 v6 v7 x13 q hIq hAq _ _ _ hP hS (lv_sub hl [1, 2, 3, 4, 5, 0] rfl) hm
      intro s16 v14 v15 q hIq hAq H locs ls hP hS hl hm
      have hm : bX8_feed_63 (mX8_feed_63 n) s16 v14 v15 = some (r, τ) := hm
      rw [← ekh63] at hm
      unfold bX8_feed_63 at hm
      refine lv_iload hx hb dX8_feed_63 (lv_at hl 3 rfl) ?_
      refine lv_iload hx hb dX8_feed_65 (lv_at hl 2 rfl) ?_
      refine lv_icmp_ge (tgt := 128) hx hb dX8_feed_67 (by decide) (fun c17 => ?_) (fun c17 => ?_)
      · have hm := (if_pos c17).symm.trans hm
        refine lv_aload_n hx hb dX8_feed_128 rfl (lv_at hl 0 rfl) ?_
        refine gfNX8_length hx hb h_X8 hown hK hP l_f116 dX8_feed_129 ?_
        exact W.iret (v := s16.1 1 0) hx hb hr (fun T hT hW => ⟨⟨s16.1 1 0, s16, rfl, ⟨congrArg Prod.fst (Option.some.inj hm), congrArg Prod.snd (Option.some.inj hm)⟩, by rw [posW, hT]; exact (wN_sub hP)⟩, hS.F hT⟩) hS.2.2 dX8_feed_132
      · have hm := (if_neg c17).symm.trans hm
        refine lv_aload hx hb dX8_feed_70 (lv_at hl 1 rfl) ?_
        refine lv_iload hx hb dX8_feed_72 (lv_at hl 3 rfl) ?_
        obtain ⟨hi, hm⟩ := ok_I hm
        refine ldN_30 hx hb hK hP hi dX8_feed_74 ?_
        refine lv_topi (fun x18 ex18 => ?_)
        have hm := bnd_x ex18 hm
        refine lv_istore (lv' := [(10, .int x18), (0, .ref (a 0)), (7, .ref q), (8, .int v14), (9, .int v15)]) hx hb dX8_feed_75 hl (by decide) rfl (fun ls hl => ?_)
        refine lv_iconst (v := 3) hx hb dX8_feed_77 (by decide) ?_
        refine lv_istore (lv' := [(11, .int 3), (10, .int x18), (0, .ref (a 0)), (7, .ref q), (8, .int v14), (9, .int v15)]) hx hb dX8_feed_78 hl (by decide) rfl (fun ls hl => ?_)
        exact L_80 NF s16 v14 v15 x18 3 q hIq hAq _ _ _ hP hS (lv_sub hl [2, 3, 4, 5, 1, 0] rfl) hm
  unfold mX8_feed at hm
  refine lv_aload_n hx hb dX8_feed_0 rfl (lv_at hl 0 rfl) ?_
  refine lv_iconst (v := 0) hx hb dX8_feed_1 (by decide) ?_
  refine pfX8_thrown hx hb h_X8 hown hK hP hI AC_in hS l_f106 dX8_feed_2 (fun H locs hP hS => ?_)
  generalize es19 : su σ 0 (fun _ => 0) = s19 at hP
  have hm := bnd_x es19.symm hm
  refine lv_aload_n hx hb dX8_feed_5 rfl (lv_at hl 0 rfl) ?_
  refine gfX8_length hx hb h_X8 hown hK hP l_f116 dX8_feed_6 ?_
  refine lv_bipush (v := 20) hx hb dX8_feed_9 (by decide) ?_
  refine lv_iadd hx hb dX8_feed_11 ?_
  refine lv_sipush (v := 400) hx hb dX8_feed_12 (by decide) ?_
  refine lv_icmp_le (tgt := 24) hx hb dX8_feed_15 (by decide) (fun c20 => ?_) (fun c20 => ?_)
  · have hm := (if_pos c20).symm.trans hm
    refine lv_iconst (v := 5) hx hb dX8_feed_24 (by decide) ?_
    refine nwN (n := 5) hx hb l_arr hK hP hI AC_in hS AC_new (by decide) rfl (Nat.le_of_ble_eq_true rfl) (Nat.le_of_ble_eq_true rfl) (Nat.le_of_ble_eq_true rfl) dX8_feed_25 (fun q H hIq hAq hP hS => ?_)
    refine W.widen (k := 1) (n := 5) (by decide) (by decide) ?_
    generalize es21 : su s19 42 (fun _ => 0) = s21 at hP
    have hm := bnd_x es21.symm hm
    refine lv_dup hx hb dX8_feed_27 rfl ?_
    refine lv_iconst (v := 0) hx hb dX8_feed_28 (by decide) ?_
    refine lv_iload_n hx hb dX8_feed_29 rfl (lv_at hl 1 rfl) ?_
    obtain ⟨hi, hm⟩ := ok_I hm
    refine stN_30 hx hb hK hP hIq hAq hS hi dX8_feed_30 (fun H locs hP hS => ?_)
    generalize es22 : su s21 42 (upd (s21.1 42) (0 : Int32).toNatClampNeg p1) = s22 at hP
    have hm := bnd_x es22.symm hm
    refine lv_dup hx hb dX8_feed_31 rfl ?_
    refine lv_iconst (v := 1) hx hb dX8_feed_32 (by decide) ?_
    refine lv_iload_n hx hb dX8_feed_33 rfl (lv_at hl 2 rfl) ?_
    obtain ⟨hi, hm⟩ := ok_I hm
    refine stN_30 hx hb hK hP hIq hAq hS hi dX8_feed_34 (fun H locs hP hS => ?_)
    generalize es23 : su s22 42 (upd (s22.1 42) (1 : Int32).toNatClampNeg p2) = s23 at hP
    have hm := bnd_x es23.symm hm
    refine lv_dup hx hb dX8_feed_35 rfl ?_
    refine lv_iconst (v := 2) hx hb dX8_feed_36 (by decide) ?_
    refine lv_iload_n hx hb dX8_feed_37 rfl (lv_at hl 3 rfl) ?_
    obtain ⟨hi, hm⟩ := ok_I hm
    refine stN_30 hx hb hK hP hIq hAq hS hi dX8_feed_38 (fun H locs hP hS => ?_)
    generalize es24 : su s23 42 (upd (s23.1 42) (2 : Int32).toNatClampNeg p3) = s24 at hP
    have hm := bnd_x es24.symm hm
    refine lv_dup hx hb dX8_feed_39 rfl ?_
    refine lv_iconst (v := 3) hx hb dX8_feed_40 (by decide) ?_
    refine lv_iload hx hb dX8_feed_41 (lv_at hl 4 rfl) ?_
    obtain ⟨hi, hm⟩ := ok_I hm
    refine stN_30 hx hb hK hP hIq hAq hS hi dX8_feed_43 (fun H locs hP hS => ?_)
    generalize es25 : su s24 42 (upd (s24.1 42) (3 : Int32).toNatClampNeg p4) = s25 at hP
    have hm := bnd_x es25.symm hm
    refine lv_dup hx hb dX8_feed_44 rfl ?_
    refine lv_iconst (v := 4) hx hb dX8_feed_45 (by decide) ?_
    refine lv_iload hx hb dX8_feed_46 (lv_at hl 5 rfl) ?_
    obtain ⟨hi, hm⟩ := ok_I hm
    refine stN_30 hx hb hK hP hIq hAq hS hi dX8_feed_48 (fun H locs hP hS => ?_)
    generalize es26 : su s25 42 (upd (s25.1 42) (4 : Int32).toNatClampNeg p5) = s26 at hP
    have hm := bnd_x es26.symm hm
    refine lv_astore (lv' := [(6, .ref q), (0, .ref (a 0)), (1, .int p1), (2, .int p2), (3, .int p3), (4, .int p4), (5, .int p5)]) hx hb dX8_feed_49 hl (by decide) rfl (fun ls hl => ?_)
    refine lv_aload hx hb dX8_feed_51 (lv_at hl 0 rfl) ?_
    refine lv_astore (lv' := [(7, .ref q), (6, .ref q), (0, .ref (a 0)), (1, .int p1), (2, .int p2), (3, .int p3), (4, .int p4), (5, .int p5)]) hx hb dX8_feed_53 hl (by decide) rfl (fun ls hl => ?_)
    refine lv_aload hx hb dX8_feed_55 (lv_at hl 0 rfl) ?_
    refine alN_30 hx hb hK hP (v := 5) rfl dX8_feed_57 ?_
    refine lv_istore (lv' := [(8, .int 5), (7, .ref q), (6, .ref q), (0, .ref (a 0)), (1, .int p1), (2, .int p2), (3, .int p3), (4, .int p4), (5, .int p5)]) hx hb dX8_feed_58 hl (by decide) rfl (fun ls hl => ?_)
    refine lv_iconst (v := 0) hx hb dX8_feed_60 (by decide) ?_
    refine lv_istore (lv' := [(9, .int 0), (8, .int 5), (7, .ref q), (6, .ref q), (0, .ref (a 0)), (1, .int p1), (2, .int p2), (3, .int p3), (4, .int p4), (5, .int p5)]) hx hb dX8_feed_61 hl (by decide) rfl (fun ls hl => ?_)
    exact L_63 NF s26 5 0 q hIq hAq _ _ _ hP hS (lv_sub hl [4, 2, 1, 0] rfl) hm
  · have hm := (if_neg c20).symm.trans hm
    refine lv_aload_n hx hb dX8_feed_18 rfl (lv_at hl 0 rfl) ?_
    refine lv_iconst (v := 1) hx hb dX8_feed_19 (by decide) ?_
    obtain ⟨⟨r27, s29⟩, h28, hm⟩ := ok_bind hm
    refine calV_i (As := [.int 1]) (rest := []) ⟨hx, hb, hml, hown, hts⟩ (kX8_no l D y a t hI _ s19 s29 1 r27 h28) (cwV 1 hts (gAV aM_X8_119 aI_X8_no aS_X8_no aN_X8 aC_X8_no) rfl rfl rfl eX8_no ⟨Nat.le_of_ble_eq_true rfl, Nat.le_of_ble_eq_true rfl⟩) (preV_W (ci := 8) (q := (RX8, TX8, 42)) hK hP hF hS rfl (wM_0 y a s19)) rfl hl.1 rfl (Nat.le_of_ble_eq_true rfl) dX8_feed_20 ⟨Nat.zero_le _, Nat.zero_le _⟩ hS (AC_le hS.1) (fun H locs hP hS hk1 => ?_)
    refine W.widen (k := 1) (n := 5) (by omega) (by omega) ?_
    exact W.iret (v := r27) hx hb hr (fun T hT hW => ⟨⟨r27, s29, rfl, ⟨congrArg Prod.fst (Option.some.inj hm), congrArg Prod.snd (Option.some.inj hm)⟩, by rw [posW, hT]; exact hP⟩, hS.F hT⟩) hS.2.2 dX8_feed_23
theorem eX8_trim : yX8_trim.cls = RX8 ∧ yX8_trim.cls ≠ "java/lang/invoke/MethodHandle" ∧ yX8_trim.cls ≠ "java/lang/invoke/VarHandle" ∧ (parseMethodDescriptor yX8_trim.desc).map (fun d => d.parameters.length) = some 1 := by decide +kernel
def mX8_trim (σ : St) (p1 : Int32) : Option (Int32 × St) :=
bnd (su σ 0 (fun _ => 0)) fun s1 =>
(mX8_isIn s1 p1 0 (s1.1 1 0)).bind fun r2 =>
if r2 = 0 then (
(mX8_no s1 1).bind fun ⟨r6, s8⟩ =>
some (r6, s8))
else (
bnd (su s1 1 (fun _ => p1)) fun s5 =>
some (p1, s5))
set_option maxHeartbeats 4000000 in
set_option maxRecDepth 100000 in
theorem kX8_trim (l : Launch) (D : va_G) (y : Nat → ClassId) (a t : Nat → Nat) (hI : AI a 30) (sz : Nat) (σ τ : St) (p1 : Int32) (r : Int32) (hm : mX8_trim σ p1 = some (r, τ)) : Met l yX8_trim zX8_trim { frames := 1, cells := 0, slots := 0, locals := 22 } (va_Pc [.ref (a 0), .int p1] (preW (wM y a) a 30 D y t σ sz)) (va_Qi (fun r' u => r' = r ∧ u = τ) (posW (wM y a) D) (AC a 30 sz)) 0 0 (AC a 30 sz) := by
  refine Met.ofW (cc := cX8_trim) (maxL := 2) (ret := (some .int)) (by decide) rfl ?_
  intro p e s m args below meth c s₁ B hml hv
  obtain ⟨rfl, hsz, hP, hK, hF⟩ := hv
  have hx := B.exec
  have hb := B.bytes
  have hr := B.returns
  have hts := atoms_spec (ws := zX8_trim) B.pre
  have hown : s.vm.findClass RX8 = some m.cls := findClass_of_methodNamed B.named
  have hlocks := B.notSynchronized
  subst hsz
  have l_f106 := hts _ (List.mem_cons_of_mem _ aF_X8_106)
  have l_f116 := hts _ (List.mem_cons_of_mem _ aF_X8_116)
  have h_X8 : ∀ w ∈ wsX80, w.before _ s = true := fun w hw => hts w (List.mem_cons_of_mem _ (hwX8 w hw))
  have hS : va_S (AC a 30 s.heap.size) s.heap s.heap [] := va_S.rf
  have hl := lv_entry ([.ref (a 0), .int p1]) (n := 2) (Nat.le_of_ble_eq_true rfl)
  rw [lg_entry_eq]
  generalize (lg_sl ([.ref (a 0), .int p1]) ++ List.replicate (2 - (lg_sl ([.ref (a 0), .int p1])).length) Slot.unset).toArray = ls at hl ⊢
  have hl : lv_has ls 2 [(0, .ref (a 0)), (1, .int p1)] := hl
  unfold mX8_trim at hm
  refine lv_aload_n hx hb dX8_trim_0 rfl (lv_at hl 0 rfl) ?_
  refine lv_iconst (v := 0) hx hb dX8_trim_1 (by decide) ?_
  refine pfX8_thrown hx hb h_X8 hown hK hP hI AC_in hS l_f106 dX8_trim_2 (fun H locs hP hS => ?_)
  generalize es1 : su σ 0 (fun _ => 0) = s1 at hP
  have hm := bnd_x es1.symm hm
  refine lv_iload_n hx hb dX8_trim_5 rfl (lv_at hl 1 rfl) ?_
  refine lv_iconst (v := 0) hx hb dX8_trim_6 (by decide) ?_
  refine lv_aload_n hx hb dX8_trim_7 rfl (lv_at hl 0 rfl) ?_
  refine gfX8_length hx hb h_X8 hown hK hP l_f116 dX8_trim_8 ?_
  obtain ⟨r2, h3, hm⟩ := ok_bind hm
  refine calS_i (As := [.int p1, .int 0, .int (s1.1 1 0)]) (rest := []) ⟨hx, hb, hml, hown, hts⟩ (kX8_isIn l D y a t hI _ s1 p1 0 (s1.1 1 0) r2 h3) (va_cwS 3 hts (gAS aM_X8_112 aT_X8_isIn aN_X8 aC_X8_isIn) rfl rfl rfl eX8_isIn ⟨Nat.le_of_ble_eq_true rfl, Nat.le_of_ble_eq_true rfl⟩) (preS_W hK hP hF hS) rfl hl.1 rfl (Nat.le_of_ble_eq_true rfl) dX8_trim_11 ⟨Nat.zero_le _, Nat.zero_le _⟩ hS (AC_le hS.1) (fun H locs hP hS hk1 => ?_)
  refine lv_if_ne (tgt := 23) hx hb dX8_trim_14 (by decide) (fun c4 => ?_) (fun c4 => ?_)
  · have hm := (if_neg c4).symm.trans hm
    refine lv_aload_n hx hb dX8_trim_23 rfl (lv_at hl 0 rfl) ?_
    refine lv_iload_n hx hb dX8_trim_24 rfl (lv_at hl 1 rfl) ?_
    refine pfX8_length hx hb h_X8 hown hK hP hI AC_in hS l_f116 dX8_trim_25 (fun H locs hP hS => ?_)
    generalize es5 : su s1 1 (fun _ => p1) = s5 at hP
    have hm := bnd_x es5.symm hm
    refine lv_iload_n hx hb dX8_trim_28 rfl (lv_at hl 1 rfl) ?_
    exact W.iret (v := p1) hx hb hr (fun T hT hW => ⟨⟨p1, s5, rfl, ⟨congrArg Prod.fst (Option.some.inj hm), congrArg Prod.snd (Option.some.inj hm)⟩, by rw [posW, hT]; exact hP⟩, hS.F hT⟩) hS.2.2 dX8_trim_29
  · have hm := (if_pos c4).symm.trans hm
    refine lv_aload_n hx hb dX8_trim_17 rfl (lv_at hl 0 rfl) ?_
    refine lv_iconst (v := 1) hx hb dX8_trim_18 (by decide) ?_
    obtain ⟨⟨r6, s8⟩, h7, hm⟩ := ok_bind hm
    refine calV_i (As := [.int 1]) (rest := []) ⟨hx, hb, hml, hown, hts⟩ (kX8_no l D y a t hI _ s1 s8 1 r6 h7) (cwV 1 hts (gAV aM_X8_119 aI_X8_no aS_X8_no aN_X8 aC_X8_no) rfl rfl rfl eX8_no ⟨Nat.le_of_ble_eq_true rfl, Nat.le_of_ble_eq_true rfl⟩) (preV_W (ci := 8) (q := (RX8, TX8, 42)) hK hP hF hS rfl (wM_0 y a s1)) rfl hl.1 rfl (Nat.le_of_ble_eq_true rfl) dX8_trim_19 ⟨Nat.zero_le _, Nat.zero_le _⟩ hS (AC_le hS.1) (fun H locs hP hS hk1 => ?_)
    exact W.iret (v := r6) hx hb hr (fun T hT hW => ⟨⟨r6, s8, rfl, ⟨congrArg Prod.fst (Option.some.inj hm), congrArg Prod.snd (Option.some.inj hm)⟩, by rw [posW, hT]; exact hP⟩, hS.F hT⟩) hS.2.2 dX8_trim_22
theorem eX8_find : yX8_find.cls = RX8 ∧ yX8_find.cls ≠ "java/lang/invoke/MethodHandle" ∧ yX8_find.cls ≠ "java/lang/invoke/VarHandle" ∧ (parseMethodDescriptor yX8_find.desc).map (fun d => d.parameters.length) = some 3 := by decide +kernel
def mX8_find_48 (kh3 : St → Int32 → Int32 → Int32 → Int32 → Option Int32) (σ : St) (v1 : Int32) (v2 : Int32) (v3 : Int32) (v4 : Int32) : Option Int32 :=
bnd (v4 + 1) fun x5 =>
kh3 σ v1 v2 v3 x5
def bX8_find_3 (kh3 : St → Int32 → Int32 → Int32 → Int32 → Option Int32) (σ : St) (v6 : Int32) (v7 : Int32) (v8 : Int32) (v9 : Int32) : Option Int32 :=
if (σ.1 5 0) ≤ v9 then (
some (-1))
else (
chkI v9 240 (
if (σ.1 15 v9.toNatClampNeg) = v6 then (
chkI v9 240 (
if (σ.1 16 v9.toNatClampNeg) = v7 then (
chkI v9 240 (
if (σ.1 17 v9.toNatClampNeg) = v8 then (
some v9)
else (
mX8_find_48 kh3 σ v6 v7 v8 v9)))
else (
mX8_find_48 kh3 σ v6 v7 v8 v9)))
else (
mX8_find_48 kh3 σ v6 v7 v8 v9)))
abbrev mX8_find_3 (n : Nat) : St → Int32 → Int32 → Int32 → Int32 → Option Int32 := fx (fun _ _ _ _ _ => none) (bX8_find_3) n
def mX8_find (σ : St) (p1 : Int32) (p2 : Int32) (p3 : Int32) : Option Int32 :=
mX8_find_3 NF σ p1 p2 p3 0
set_option maxHeartbeats 4000000 in
set_option maxRecDepth 100000 in
theorem kX8_find (l : Launch) (D : va_G) (y : Nat → ClassId) (a t : Nat → Nat) (hI : AI a 30) (sz : Nat) (σ : St) (p1 : Int32) (p2 : Int32) (p3 : Int32) (r : Int32) (hm : mX8_find σ p1 p2 p3 = some r) : Met l yX8_find zX8_find { frames := 0, cells := 0, slots := 0, locals := 0 } (va_Pc [.ref (a 0), .int p1, .int p2, .int p3] (preW (wM y a) a 30 D y t σ sz)) (va_Qi (fun r' u => r' = r ∧ u = σ) (posW (wM y a) D) (AC a 30 sz)) 0 0 (AC a 30 sz) := by
  refine Met.ofW (cc := cX8_find) (maxL := 5) (ret := (some .int)) (by decide) rfl ?_
  intro p e s m args below meth c s₁ B hml hv
  obtain ⟨rfl, hsz, hP, hK, hF⟩ := hv
  have hx := B.exec
  have hb := B.bytes
  have hr := B.returns
  have hts := atoms_spec (ws := zX8_find) B.pre
  have hown : s.vm.findClass RX8 = some m.cls := findClass_of_methodNamed B.named
  have hlocks := B.notSynchronized
  subst hsz
  have l_f109 := hts _ (List.mem_cons_of_mem _ aF_X8_109)
  have l_f20 := hts _ (List.mem_cons_of_mem _ aF_X8_20)
  have l_f23 := hts _ (List.mem_cons_of_mem _ aF_X8_23)
  have l_f26 := hts _ (List.mem_cons_of_mem _ aF_X8_26)
  have h_X8 : ∀ w ∈ wsX80, w.before _ s = true := fun w hw => hts w (List.mem_cons_of_mem _ (hwX8 w hw))
  have hS : va_S (AC a 30 s.heap.size) s.heap s.heap [] := va_S.rf
  have hl := lv_entry ([.ref (a 0), .int p1, .int p2, .int p3]) (n := 5) (Nat.le_of_ble_eq_true rfl)
  rw [lg_entry_eq]
  generalize (lg_sl ([.ref (a 0), .int p1, .int p2, .int p3]) ++ List.replicate (5 - (lg_sl ([.ref (a 0), .int p1, .int p2, .int p3])).length) Slot.unset).toArray = ls at hl ⊢
  have hl : lv_has ls 5 [(0, .ref (a 0)), (1, .int p1), (2, .int p2), (3, .int p3)] := hl
  have L_3 : ∀ (n : Nat) (v6 : Int32) (v7 : Int32) (v8 : Int32) (v9 : Int32) (H : Heap) (locs : List Loc) (ls : Array Slot), va_P D vwCl (wM y a σ) H → va_S (AC a 30 s.heap.size) s.heap H locs → lv_has ls 5 [(0, .ref (a 0)), (1, .int v6), (2, .int v7), (3, .int v8), (4, .int v9)] → mX8_find_3 n σ v6 v7 v8 v9 = some r → W p l e (headSpec zX8_find ({ frames := 0, cells := 0, slots := 0, locals := 0 })).room s m ([.ref (a 0), .int p1, .int p2, .int p3] : List Value).toArray below meth c H locs 0 0 (MQ below (va_Qi (fun r' u => r' = r ∧ u = σ) (posW (wM y a) D) (AC a 30 s.heap.size)) ([.ref (a 0), .int p1, .int p2, .int p3] : List Value).toArray s 0 0 (AC a 30 s.heap.size)) (F0 m 3 ls []) := by
    intro n
    induction n with
    | zero =>
      intro v6 v7 v8 v9 H locs ls hP hS hl hm
      exact absurd (show (none : Option Int32) = some r from hm) (by intro h; cases h)
    | succ n ih3 =>
      obtain ⟨kh3, ekh3⟩ : ∃ z, z = mX8_find_3 n := ⟨_, rfl⟩
      have ih3 : ∀ (v6 : Int32) (v7 : Int32) (v8 : Int32) (v9 : Int32) (H : Heap) (locs : List Loc) (ls : Array Slot), va_P D vwCl (wM y a σ) H → va_S (AC a 30 s.heap.size) s.heap H locs → lv_has ls 5 [(0, .ref (a 0)), (1, .int v6), (2, .int v7), (3, .int v8), (4, .int v9)] → kh3 σ v6 v7 v8 v9 = some r → W p l e (headSpec zX8_find ({ frames := 0, cells := 0, slots := 0, locals := 0 })).room s m ([.ref (a 0), .int p1, .int p2, .int p3] : List Value).toArray below meth c H locs 0 0 (MQ below (va_Qi (fun r' u => r' = r ∧ u = σ) (posW (wM y a) D) (AC a 30 s.heap.size)) ([.ref (a 0), .int p1, .int p2, .int p3] : List Value).toArray s 0 0 (AC a 30 s.heap.size)) (F0 m 3 ls []) := by rw [ekh3]; exact ih3
      have L_48 : ∀ (v1 : Int32) (v2 : Int32) (v3 : Int32) (v4 : Int32) (H : Heap) (locs : List Loc) (ls : Array Slot), va_P D vwCl (wM y a σ) H → va_S (AC a 30 s.heap.size) s.heap H locs → lv_has ls 5 [(0, .ref (a 0)), (1, .int v1), (2, .int v2), (3, .int v3), (4, .int v4)] → mX8_find_48 kh3 σ v1 v2 v3 v4 = some r → W p l e (headSpec zX8_find ({ frames := 0, cells := 0, slots := 0, locals := 0 })).room s m ([.ref (a 0), .int p1, .int p2, .int p3] : List Value).toArray below meth c H locs 0 0 (MQ below (va_Qi (fun r' u => r' = r ∧ u = σ) (posW (wM y a) D) (AC a 30 s.heap.size)) ([.ref (a 0), .int p1, .int p2, .int p3] : List Value).toArray s 0 0 (AC a 30 s.heap.size)) (F0 m 48 ls []) := by
        intro v1 v2 v3 v4 H locs ls hP hS hl hm
        unfold mX8_find_48 at hm
        obtain ⟨x5, ex5⟩ : ∃ z : Int32, z = v4 + 1 := ⟨_, rfl⟩
        have hm := bnd_x ex5 hm
        refine lv_iinc (v := x5) (lv' := [(4, .int x5), (0, .ref (a 0)), (1, .int v1), (2, .int v2), (3, .int v3)]) hx hb dX8_find_48 hl (k := 4) rfl (by rw [ex5]; rfl) (by decide) rfl (fun ls hl => ?_)
        refine lv_goto (tgt := 3) hx hb dX8_find_51 (by decide) ?_
        exact ih3 v1 v2 v3 x5 _ _ _ hP hS (lv_sub hl [1, 2, 3, 4, 0] rfl) hm
      intro v6 v7 v8 v9 H locs ls hP hS hl hm
      have hm : bX8_find_3 (mX8_find_3 n) σ v6 v7 v8 v9 = some r := hm
      rw [← ekh3] at hm
      unfold bX8_find_3 at hm
      refine lv_iload hx hb dX8_find_3 (lv_at hl 4 rfl) ?_
      refine lv_aload_n hx hb dX8_find_5 rfl (lv_at hl 0 rfl) ?_
      refine gfX8_formulas hx hb h_X8 hown hK hP l_f109 dX8_find_6 ?_
      refine lv_icmp_ge (tgt := 54) hx hb dX8_find_9 (by decide) (fun c10 => ?_) (fun c10 => ?_)
      · have hm := (if_pos c10).symm.trans hm
        refine lv_iconst (v := (-1)) hx hb dX8_find_54 (by decide) ?_
        exact W.iret (v := (-1)) hx hb hr (fun T hT hW => ⟨⟨(-1), σ, rfl, ⟨Option.some.inj hm, rfl⟩, by rw [posW, hT]; exact hP⟩, hS.F hT⟩) hS.2.2 dX8_find_55
      · have hm := (if_neg c10).symm.trans hm
        refine lv_aload_n hx hb dX8_find_12 rfl (lv_at hl 0 rfl) ?_
        refine gfX8_sorts hx hb h_X8 hown hK hP l_f20 dX8_find_13 ?_
        refine lv_iload hx hb dX8_find_16 (lv_at hl 4 rfl) ?_
        obtain ⟨hi, hm⟩ := ok_I hm
        refine ldM_3 hx hb hK hP hi dX8_find_18 ?_
        refine lv_iload_n hx hb dX8_find_19 rfl (lv_at hl 1 rfl) ?_
        refine lv_icmp_ne (tgt := 48) hx hb dX8_find_20 (by decide) (fun c11 => ?_) (fun c11 => ?_)
        · have hm := (if_neg c11).symm.trans hm
          exact L_48 v6 v7 v8 v9 _ _ _ hP hS (lv_sub hl [0, 1, 2, 3, 4] rfl) hm
        · have hm := (if_pos c11).symm.trans hm
          refine lv_aload_n hx hb dX8_find_23 rfl (lv_at hl 0 rfl) ?_
          refine gfX8_firsts hx hb h_X8 hown hK hP l_f23 dX8_find_24 ?_
          refine lv_iload hx hb dX8_find_27 (lv_at hl 4 rfl) ?_
          obtain ⟨hi, hm⟩ := ok_I hm
          refine ldM_4 hx hb hK hP hi dX8_find_29 ?_
          refine lv_iload_n hx hb dX8_find_30 rfl (lv_at hl 2 rfl) ?_
          refine lv_icmp_ne (tgt := 48) hx hb dX8_find_31 (by decide) (fun c12 => ?_) (fun c12 => ?_)
          · have hm := (if_neg c12).symm.trans hm
            exact L_48 v6 v7 v8 v9 _ _ _ hP hS (lv_sub hl [0, 1, 2, 3, 4] rfl) hm
          · have hm := (if_pos c12).symm.trans hm
            refine lv_aload_n hx hb dX8_find_34 rfl (lv_at hl 0 rfl) ?_
            refine gfX8_seconds hx hb h_X8 hown hK hP l_f26 dX8_find_35 ?_
            refine lv_iload hx hb dX8_find_38 (lv_at hl 4 rfl) ?_
            obtain ⟨hi, hm⟩ := ok_I hm
            refine ldM_5 hx hb hK hP hi dX8_find_40 ?_
            refine lv_iload_n hx hb dX8_find_41 rfl (lv_at hl 3 rfl) ?_
            refine lv_icmp_ne (tgt := 48) hx hb dX8_find_42 (by decide) (fun c13 => ?_) (fun c13 => ?_)
            · have hm := (if_neg c13).symm.trans hm
              exact L_48 v6 v7 v8 v9 _ _ _ hP hS (lv_sub hl [0, 1, 2, 3, 4] rfl) hm
            · have hm := (if_pos c13).symm.trans hm
              refine lv_iload hx hb dX8_find_45 (lv_at hl 4 rfl) ?_
              exact W.iret (v := v9) hx hb hr (fun T hT hW => ⟨⟨v9, σ, rfl, ⟨Option.some.inj hm, rfl⟩, by rw [posW, hT]; exact hP⟩, hS.F hT⟩) hS.2.2 dX8_find_47
  unfold mX8_find at hm
  refine lv_iconst (v := 0) hx hb dX8_find_0 (by decide) ?_
  refine lv_istore (lv' := [(4, .int 0), (0, .ref (a 0)), (1, .int p1), (2, .int p2), (3, .int p3)]) hx hb dX8_find_1 hl (by decide) rfl (fun ls hl => ?_)
  exact L_3 NF p1 p2 p3 0 _ _ _ hP hS (lv_sub hl [1, 2, 3, 4, 0] rfl) hm
theorem eX8_told : yX8_told.cls ≠ "java/lang/invoke/MethodHandle" ∧ yX8_told.cls ≠ "java/lang/invoke/VarHandle" ∧ (parseMethodDescriptor yX8_told.desc).map (fun d => d.parameters.length) = some 3 := by decide +kernel
def mX8_told (σ : St) (p1 : Int32) (p2 : Int32) (p3 : Int32) : Option Int32 :=
if p1 = 2 then (
if p2 = 0 then (
some 1)
else (
some 0))
else (
if p1 = 3 then (
if p2 = 0 then (
some 0)
else (
if p3 = 0 then (
some 0)
else (
some 1)))
else (
if p1 = 4 then (
if p2 = 0 then (
if p3 = 0 then (
some 0)
else (
some 1))
else (
some 1))
else (
if p2 = 0 then (
some 1)
else (
if p3 = 0 then (
some 0)
else (
some 1)))))
set_option maxHeartbeats 4000000 in
set_option maxRecDepth 100000 in
theorem kX8_told (l : Launch) (D : va_G) (y : Nat → ClassId) (a t : Nat → Nat) (hI : AI a 30) (sz : Nat) (σ : St) (p1 : Int32) (p2 : Int32) (p3 : Int32) (r : Int32) (hm : mX8_told σ p1 p2 p3 = some r) : Met l yX8_told zX8_told { frames := 0, cells := 0, slots := 0, locals := 0 } (va_Pc [.int p1, .int p2, .int p3] (preW (wM y a) a 30 D y t σ sz)) (va_Qi (fun r' u => r' = r ∧ u = σ) (posW (wM y a) D) (AC a 30 sz)) 0 0 (AC a 30 sz) := by
  refine Met.ofW (cc := cX8_told) (maxL := 3) (ret := (some .boolean)) (by decide) rfl ?_
  intro p e s m args below meth c s₁ B hml hv
  obtain ⟨rfl, hsz, hP, hK, hF⟩ := hv
  have hx := B.exec
  have hb := B.bytes
  have hr := B.returns
  have hts := atoms_spec (ws := zX8_told) B.pre
  have hown : s.vm.findClass RX8 = some m.cls := findClass_of_methodNamed B.named
  have hlocks := B.notSynchronized
  subst hsz
  have hS : va_S (AC a 30 s.heap.size) s.heap s.heap [] := va_S.rf
  have hl := lv_entry ([.int p1, .int p2, .int p3]) (n := 3) (Nat.le_of_ble_eq_true rfl)
  rw [lg_entry_eq]
  generalize (lg_sl ([.int p1, .int p2, .int p3]) ++ List.replicate (3 - (lg_sl ([.int p1, .int p2, .int p3])).length) Slot.unset).toArray = ls at hl ⊢
  have hl : lv_has ls 3 [(0, .int p1), (1, .int p2), (2, .int p3)] := hl
  unfold mX8_told at hm
  refine lv_iload_n hx hb dX8_told_0 rfl (lv_at hl 0 rfl) ?_
  refine lv_iconst (v := 2) hx hb dX8_told_1 (by decide) ?_
  refine lv_icmp_ne (tgt := 17) hx hb dX8_told_2 (by decide) (fun c1 => ?_) (fun c1 => ?_)
  · have hm := (if_neg c1).symm.trans hm
    refine lv_iload_n hx hb dX8_told_17 rfl (lv_at hl 0 rfl) ?_
    refine lv_iconst (v := 3) hx hb dX8_told_18 (by decide) ?_
    refine lv_icmp_ne (tgt := 38) hx hb dX8_told_19 (by decide) (fun c2 => ?_) (fun c2 => ?_)
    · have hm := (if_neg c2).symm.trans hm
      refine lv_iload_n hx hb dX8_told_38 rfl (lv_at hl 0 rfl) ?_
      refine lv_iconst (v := 4) hx hb dX8_told_39 (by decide) ?_
      refine lv_icmp_ne (tgt := 59) hx hb dX8_told_40 (by decide) (fun c3 => ?_) (fun c3 => ?_)
      · have hm := (if_neg c3).symm.trans hm
        refine lv_iload_n hx hb dX8_told_59 rfl (lv_at hl 1 rfl) ?_
        refine lv_if_eq (tgt := 67) hx hb dX8_told_60 (by decide) (fun c4 => ?_) (fun c4 => ?_)
        · have hm := (if_pos c4).symm.trans hm
          refine lv_iconst (v := 1) hx hb dX8_told_67 (by decide) ?_
          refine lv_goto (tgt := 72) hx hb dX8_told_68 (by decide) ?_
          exact W.zret (v := 1) hx hb hr rfl (fun T hT hW => ⟨⟨1, σ, rfl, ⟨Option.some.inj hm, rfl⟩, by rw [posW, hT]; exact hP⟩, hS.F hT⟩) hS.2.2 dX8_told_72
        · have hm := (if_neg c4).symm.trans hm
          refine lv_iload_n hx hb dX8_told_63 rfl (lv_at hl 2 rfl) ?_
          refine lv_if_eq (tgt := 71) hx hb dX8_told_64 (by decide) (fun c5 => ?_) (fun c5 => ?_)
          · have hm := (if_pos c5).symm.trans hm
            refine lv_iconst (v := 0) hx hb dX8_told_71 (by decide) ?_
            exact W.zret (v := 0) hx hb hr rfl (fun T hT hW => ⟨⟨0, σ, rfl, ⟨Option.some.inj hm, rfl⟩, by rw [posW, hT]; exact hP⟩, hS.F hT⟩) hS.2.2 dX8_told_72
          · have hm := (if_neg c5).symm.trans hm
            refine lv_iconst (v := 1) hx hb dX8_told_67 (by decide) ?_
            refine lv_goto (tgt := 72) hx hb dX8_told_68 (by decide) ?_
            exact W.zret (v := 1) hx hb hr rfl (fun T hT hW => ⟨⟨1, σ, rfl, ⟨Option.some.inj hm, rfl⟩, by rw [posW, hT]; exact hP⟩, hS.F hT⟩) hS.2.2 dX8_told_72
      · have hm := (if_pos c3).symm.trans hm
        refine lv_iload_n hx hb dX8_told_43 rfl (lv_at hl 1 rfl) ?_
        refine lv_if_ne (tgt := 51) hx hb dX8_told_44 (by decide) (fun c6 => ?_) (fun c6 => ?_)
        · have hm := (if_neg c6).symm.trans hm
          refine lv_iconst (v := 1) hx hb dX8_told_51 (by decide) ?_
          refine lv_goto (tgt := 72) hx hb dX8_told_52 (by decide) ?_
          exact W.zret (v := 1) hx hb hr rfl (fun T hT hW => ⟨⟨1, σ, rfl, ⟨Option.some.inj hm, rfl⟩, by rw [posW, hT]; exact hP⟩, hS.F hT⟩) hS.2.2 dX8_told_72
        · have hm := (if_pos c6).symm.trans hm
          refine lv_iload_n hx hb dX8_told_47 rfl (lv_at hl 2 rfl) ?_
          refine lv_if_eq (tgt := 55) hx hb dX8_told_48 (by decide) (fun c7 => ?_) (fun c7 => ?_)
          · have hm := (if_pos c7).symm.trans hm
            refine lv_iconst (v := 0) hx hb dX8_told_55 (by decide) ?_
            refine lv_goto (tgt := 72) hx hb dX8_told_56 (by decide) ?_
            exact W.zret (v := 0) hx hb hr rfl (fun T hT hW => ⟨⟨0, σ, rfl, ⟨Option.some.inj hm, rfl⟩, by rw [posW, hT]; exact hP⟩, hS.F hT⟩) hS.2.2 dX8_told_72
          · have hm := (if_neg c7).symm.trans hm
            refine lv_iconst (v := 1) hx hb dX8_told_51 (by decide) ?_
            refine lv_goto (tgt := 72) hx hb dX8_told_52 (by decide) ?_
            exact W.zret (v := 1) hx hb hr rfl (fun T hT hW => ⟨⟨1, σ, rfl, ⟨Option.some.inj hm, rfl⟩, by rw [posW, hT]; exact hP⟩, hS.F hT⟩) hS.2.2 dX8_told_72
    · have hm := (if_pos c2).symm.trans hm
      refine lv_iload_n hx hb dX8_told_22 rfl (lv_at hl 1 rfl) ?_
      refine lv_if_eq (tgt := 34) hx hb dX8_told_23 (by decide) (fun c8 => ?_) (fun c8 => ?_)
      · have hm := (if_pos c8).symm.trans hm
        refine lv_iconst (v := 0) hx hb dX8_told_34 (by decide) ?_
        refine lv_goto (tgt := 72) hx hb dX8_told_35 (by decide) ?_
        exact W.zret (v := 0) hx hb hr rfl (fun T hT hW => ⟨⟨0, σ, rfl, ⟨Option.some.inj hm, rfl⟩, by rw [posW, hT]; exact hP⟩, hS.F hT⟩) hS.2.2 dX8_told_72
      · have hm := (if_neg c8).symm.trans hm
        refine lv_iload_n hx hb dX8_told_26 rfl (lv_at hl 2 rfl) ?_
        refine lv_if_eq (tgt := 34) hx hb dX8_told_27 (by decide) (fun c9 => ?_) (fun c9 => ?_)
        · have hm := (if_pos c9).symm.trans hm
          refine lv_iconst (v := 0) hx hb dX8_told_34 (by decide) ?_
          refine lv_goto (tgt := 72) hx hb dX8_told_35 (by decide) ?_
          exact W.zret (v := 0) hx hb hr rfl (fun T hT hW => ⟨⟨0, σ, rfl, ⟨Option.some.inj hm, rfl⟩, by rw [posW, hT]; exact hP⟩, hS.F hT⟩) hS.2.2 dX8_told_72
        · have hm := (if_neg c9).symm.trans hm
          refine lv_iconst (v := 1) hx hb dX8_told_30 (by decide) ?_
          refine lv_goto (tgt := 72) hx hb dX8_told_31 (by decide) ?_
          exact W.zret (v := 1) hx hb hr rfl (fun T hT hW => ⟨⟨1, σ, rfl, ⟨Option.some.inj hm, rfl⟩, by rw [posW, hT]; exact hP⟩, hS.F hT⟩) hS.2.2 dX8_told_72
  · have hm := (if_pos c1).symm.trans hm
    refine lv_iload_n hx hb dX8_told_5 rfl (lv_at hl 1 rfl) ?_
    refine lv_if_ne (tgt := 13) hx hb dX8_told_6 (by decide) (fun c10 => ?_) (fun c10 => ?_)
    · have hm := (if_neg c10).symm.trans hm
      refine lv_iconst (v := 0) hx hb dX8_told_13 (by decide) ?_
      refine lv_goto (tgt := 72) hx hb dX8_told_14 (by decide) ?_
      exact W.zret (v := 0) hx hb hr rfl (fun T hT hW => ⟨⟨0, σ, rfl, ⟨Option.some.inj hm, rfl⟩, by rw [posW, hT]; exact hP⟩, hS.F hT⟩) hS.2.2 dX8_told_72
    · have hm := (if_pos c10).symm.trans hm
      refine lv_iconst (v := 1) hx hb dX8_told_9 (by decide) ?_
      refine lv_goto (tgt := 72) hx hb dX8_told_10 (by decide) ?_
      exact W.zret (v := 1) hx hb hr rfl (fun T hT hW => ⟨⟨1, σ, rfl, ⟨Option.some.inj hm, rfl⟩, by rw [posW, hT]; exact hP⟩, hS.F hT⟩) hS.2.2 dX8_told_72
theorem eX8_isTrueAt : yX8_isTrueAt.cls = RX8 ∧ yX8_isTrueAt.cls ≠ "java/lang/invoke/MethodHandle" ∧ yX8_isTrueAt.cls ≠ "java/lang/invoke/VarHandle" ∧ (parseMethodDescriptor yX8_isTrueAt.desc).map (fun d => d.parameters.length) = some 2 := by decide +kernel
def mX8_isTrueAt (σ : St) (p1 : Int32) (p2 : Int32) : Option Int32 :=
chkI ((p1 <<< (8 &&& 31)) ||| p2) 61440 (
chkZ (σ.1 20 ((p1 <<< (8 &&& 31)) ||| p2).toNatClampNeg) (some (σ.1 20 ((p1 <<< (8 &&& 31)) ||| p2).toNatClampNeg)))
set_option maxHeartbeats 4000000 in
set_option maxRecDepth 100000 in
theorem kX8_isTrueAt (l : Launch) (D : va_G) (y : Nat → ClassId) (a t : Nat → Nat) (hI : AI a 30) (sz : Nat) (σ : St) (p1 : Int32) (p2 : Int32) (r : Int32) (hm : mX8_isTrueAt σ p1 p2 = some r) : Met l yX8_isTrueAt zX8_isTrueAt { frames := 0, cells := 0, slots := 0, locals := 0 } (va_Pc [.ref (a 0), .int p1, .int p2] (preW (wM y a) a 30 D y t σ sz)) (va_Qi (fun r' u => r' = r ∧ u = σ) (posW (wM y a) D) (AC a 30 sz)) 0 0 (AC a 30 sz) := by
  refine Met.ofW (cc := cX8_isTrueAt) (maxL := 3) (ret := (some .boolean)) (by decide) rfl ?_
  intro p e s m args below meth c s₁ B hml hv
  obtain ⟨rfl, hsz, hP, hK, hF⟩ := hv
  have hx := B.exec
  have hb := B.bytes
  have hr := B.returns
  have hts := atoms_spec (ws := zX8_isTrueAt) B.pre
  have hown : s.vm.findClass RX8 = some m.cls := findClass_of_methodNamed B.named
  have hlocks := B.notSynchronized
  subst hsz
  have l_f36 := hts _ (List.mem_cons_of_mem _ aF_X8_36)
  have h_X8 : ∀ w ∈ wsX80, w.before _ s = true := fun w hw => hts w (List.mem_cons_of_mem _ (hwX8 w hw))
  have hS : va_S (AC a 30 s.heap.size) s.heap s.heap [] := va_S.rf
  have hl := lv_entry ([.ref (a 0), .int p1, .int p2]) (n := 3) (Nat.le_of_ble_eq_true rfl)
  rw [lg_entry_eq]
  generalize (lg_sl ([.ref (a 0), .int p1, .int p2]) ++ List.replicate (3 - (lg_sl ([.ref (a 0), .int p1, .int p2])).length) Slot.unset).toArray = ls at hl ⊢
  have hl : lv_has ls 3 [(0, .ref (a 0)), (1, .int p1), (2, .int p2)] := hl
  unfold mX8_isTrueAt at hm
  refine lv_aload_n hx hb dX8_isTrueAt_0 rfl (lv_at hl 0 rfl) ?_
  refine gfX8_truths hx hb h_X8 hown hK hP l_f36 dX8_isTrueAt_1 ?_
  refine lv_iload_n hx hb dX8_isTrueAt_4 rfl (lv_at hl 1 rfl) ?_
  refine lv_bipush (v := 8) hx hb dX8_isTrueAt_5 (by decide) ?_
  refine lv_ishl hx hb dX8_isTrueAt_7 ?_
  refine lv_iload_n hx hb dX8_isTrueAt_8 rfl (lv_at hl 2 rfl) ?_
  refine lv_ior hx hb dX8_isTrueAt_9 ?_
  obtain ⟨hi, hm⟩ := ok_I hm
  refine ldM_8 hx hb hK hP hi dX8_isTrueAt_10 ?_
  obtain ⟨hz, hm⟩ := ok_Z hm
  exact W.zret (v := σ.1 20 ((p1 <<< (8 &&& 31)) ||| p2).toNatClampNeg) hx hb hr hz (fun T hT hW => ⟨⟨σ.1 20 ((p1 <<< (8 &&& 31)) ||| p2).toNatClampNeg, σ, rfl, ⟨Option.some.inj hm, rfl⟩, by rw [posW, hT]; exact hP⟩, hS.F hT⟩) hS.2.2 dX8_isTrueAt_11
theorem eX8_known : yX8_known.cls = RX8 ∧ yX8_known.cls ≠ "java/lang/invoke/MethodHandle" ∧ yX8_known.cls ≠ "java/lang/invoke/VarHandle" ∧ (parseMethodDescriptor yX8_known.desc).map (fun d => d.parameters.length) = some 3 := by decide +kernel
def mX8_known_247 (s2 : St) (v1 : Int32) : Option (Int32 × St) :=
bnd (su s2 5 (fun _ => (s2.1 5 0) + 1)) fun s3 =>
some (v1, s3)
def mX8_known_240 (kh154 : St → Int32 → Int32 → Int32 → Int32 → Int32 → Option (Int32 × St)) (s11 : St) (v4 : Int32) (v5 : Int32) (v6 : Int32) (v7 : Int32) (v8 : Int32) (v9 : Int32) (v10 : Int32) : Option (Int32 × St) :=
chkI v10 61440 (
bnd (su s11 20 (upd (s11.1 20) v10.toNatClampNeg (vp_nar .boolean v9))) fun s12 =>
bnd (v8 + 1) fun x13 =>
kh154 s12 v4 v5 v6 v7 x13)
def mX8_known_239 (kh154 : St → Int32 → Int32 → Int32 → Int32 → Int32 → Option (Int32 × St)) (s20 : St) (v14 : Int32) (v15 : Int32) (v16 : Int32) (v17 : Int32) (v18 : Int32) (v19 : Int32) : Option (Int32 × St) :=
mX8_known_240 kh154 s20 v14 v15 v16 v17 v18 0 v19
def mX8_known_229 (kh154 : St → Int32 → Int32 → Int32 → Int32 → Int32 → Option (Int32 × St)) (s30 : St) (v21 : Int32) (v22 : Int32) (v23 : Int32) (v24 : Int32) (v25 : Int32) (v26 : Int32) (v27 : Int32) (v28 : Int32) (v29 : Int32) : Option (Int32 × St) :=
(mX8_told s30 v28 v27 v26).bind fun r31 =>
if r31 = 0 then (
mX8_known_239 kh154 s30 v21 v22 v23 v24 v25 v29)
else (
mX8_known_240 kh154 s30 v21 v22 v23 v24 v25 1 v29)
def mX8_known_228 (kh154 : St → Int32 → Int32 → Int32 → Int32 → Int32 → Option (Int32 × St)) (s42 : St) (v34 : Int32) (v35 : Int32) (v36 : Int32) (v37 : Int32) (v38 : Int32) (v39 : Int32) (v40 : Int32) (v41 : Int32) : Option (Int32 × St) :=
mX8_known_229 kh154 s42 v34 v35 v36 v37 v38 0 v39 v40 v41
def bX8_known_154 (kh154 : St → Int32 → Int32 → Int32 → Int32 → Int32 → Option (Int32 × St)) (s48 : St) (v43 : Int32) (v44 : Int32) (v45 : Int32) (v46 : Int32) (v47 : Int32) : Option (Int32 × St) :=
if 256 ≤ v47 then (
mX8_known_247 s48 v46)
else (
if v43 = 0 then (
if ((v47 >>> (v44 &&& 31)) &&& 1) = 1 then (
mX8_known_240 kh154 s48 v43 v44 v45 v46 v47 1 ((v46 <<< (8 &&& 31)) ||| v47))
else (
mX8_known_240 kh154 s48 v43 v44 v45 v46 v47 0 ((v46 <<< (8 &&& 31)) ||| v47)))
else (
if v43 = 1 then (
mX8_known_239 kh154 s48 v43 v44 v45 v46 v47 ((v46 <<< (8 &&& 31)) ||| v47))
else (
(mX8_isTrueAt s48 v44 v47).bind fun r52 =>
if v45 = (-1) then (
mX8_known_228 kh154 s48 v43 v44 v45 v46 v47 r52 v43 ((v46 <<< (8 &&& 31)) ||| v47))
else (
(mX8_isTrueAt s48 v45 v47).bind fun r55 =>
if r55 = 0 then (
mX8_known_228 kh154 s48 v43 v44 v45 v46 v47 r52 v43 ((v46 <<< (8 &&& 31)) ||| v47))
else (
mX8_known_229 kh154 s48 v43 v44 v45 v46 v47 1 r52 v43 ((v46 <<< (8 &&& 31)) ||| v47))))))
abbrev mX8_known_154 (n : Nat) : St → Int32 → Int32 → Int32 → Int32 → Int32 → Option (Int32 × St) := fx (fun _ _ _ _ _ _ => none) (bX8_known_154) n
def mX8_known_150 (s65 : St) (v59 : Int32) (v60 : Int32) (v61 : Int32) (v62 : Int32) (v63 : Int32) (v64 : Int32) : Option (Int32 × St) :=
chkI v64 240 (
bnd (su s65 19 (upd (s65.1 19) v64.toNatClampNeg v63)) fun s66 =>
mX8_known_154 NF s66 v59 v60 v61 v62 0)
def mX8_known_146 (s75 : St) (v67 : Int32) (v68 : Int32) (v69 : Int32) (v70 : Int32) (v71 : Int32) (v72 : Int32) (v73 : Int32) (v74 : Int32) : Option (Int32 × St) :=
mX8_known_150 s75 v67 v68 v69 v70 (if (v72 + v71) < v73 then v72 + v71 else v73) v74
def mX8_known_105 (s82 : St) (v76 : Int32) (v77 : Int32) (v78 : Int32) (v79 : Int32) (v80 : Int32) (v81 : Int32) : Option (Int32 × St) :=
chkI v81 240 (
bnd (su s82 18 (upd (s82.1 18) v81.toNatClampNeg v80)) fun s83 =>
if 2 ≤ v76 then (
chkI v77 240 (
if v78 = (-1) then (
mX8_known_146 s83 v76 v77 v78 v79 0 (1 + (s83.1 19 v77.toNatClampNeg)) 1000000 v79)
else (
chkI v78 240 (
mX8_known_146 s83 v76 v77 v78 v79 (s83.1 19 v78.toNatClampNeg) (1 + (s83.1 19 v77.toNatClampNeg)) 1000000 v79))))
else (
mX8_known_150 s83 v76 v77 v78 v79 1 v79))
def mX8_known_104 (s93 : St) (v86 : Int32) (v87 : Int32) (v88 : Int32) (v89 : Int32) (v90 : Int32) (v91 : Int32) (v92 : Int32) : Option (Int32 × St) :=
mX8_known_105 s93 v86 v87 v88 v89 (v91 ||| v90) v92
def mX8_known (σ : St) (p1 : Int32) (p2 : Int32) (p3 : Int32) : Option (Int32 × St) :=
(mX8_find σ p1 p2 p3).bind fun r94 =>
if r94 = (-1) then (
if (σ.1 5 0) = 240 then (
some (r94, σ))
else (
bnd (σ.1 5 0) fun x98 =>
chkI x98 240 (
bnd (su σ 15 (upd (σ.1 15) x98.toNatClampNeg p1)) fun s99 =>
chkI x98 240 (
bnd (su s99 16 (upd (s99.1 16) x98.toNatClampNeg p2)) fun s100 =>
chkI x98 240 (
bnd (su s100 17 (upd (s100.1 17) x98.toNatClampNeg p3)) fun s101 =>
if p1 = 0 then (
mX8_known_105 s101 p1 p2 p3 x98 ((1 : Int32) <<< (p2 &&& 31)) x98)
else (
if p1 = 1 then (
mX8_known_105 s101 p1 p2 p3 x98 0 x98)
else (
chkI p2 240 (
if p3 = (-1) then (
mX8_known_104 s101 p1 p2 p3 x98 0 (s101.1 18 p2.toNatClampNeg) x98)
else (
chkI p3 240 (
mX8_known_104 s101 p1 p2 p3 x98 (s101.1 18 p3.toNatClampNeg) (s101.1 18 p2.toNatClampNeg) x98))))))))))
else (
some (r94, σ))
set_option maxHeartbeats 4000000 in
set_option maxRecDepth 100000 in
theorem kX8_known (l : Launch) (D : va_G) (y : Nat → ClassId) (a t : Nat → Nat) (hI : AI a 30) (sz : Nat) (σ τ : St) (p1 : Int32) (p2 : Int32) (p3 : Int32) (r : Int32) (hm : mX8_known σ p1 p2 p3 = some (r, τ)) : Met l yX8_known zX8_known { frames := 1, cells := 0, slots := 0, locals := 24 } (va_Pc [.ref (a 0), .int p1, .int p2, .int p3] (preW (wM y a) a 30 D y t σ sz)) (va_Qi (fun r' u => r' = r ∧ u = τ) (posW (wM y a) D) (AC a 30 sz)) 0 0 (AC a 30 sz) := by
  refine Met.ofW (cc := cX8_known) (maxL := 7) (ret := (some .int)) (by decide) rfl ?_
  intro p e s m args below meth c s₁ B hml hv
  obtain ⟨rfl, hsz, hP, hK, hF⟩ := hv
  have hx := B.exec
  have hb := B.bytes
  have hr := B.returns
  have hts := atoms_spec (ws := zX8_known) B.pre
  have hown : s.vm.findClass RX8 = some m.cls := findClass_of_methodNamed B.named
  have hlocks := B.notSynchronized
  subst hsz
  have l_f109 := hts _ (List.mem_cons_of_mem _ aF_X8_109)
  have l_f20 := hts _ (List.mem_cons_of_mem _ aF_X8_20)
  have l_f23 := hts _ (List.mem_cons_of_mem _ aF_X8_23)
  have l_f26 := hts _ (List.mem_cons_of_mem _ aF_X8_26)
  have l_f29 := hts _ (List.mem_cons_of_mem _ aF_X8_29)
  have l_f32 := hts _ (List.mem_cons_of_mem _ aF_X8_32)
  have l_c127 := hts _ (List.mem_cons_of_mem _ aK_X8_127)
  have l_f36 := hts _ (List.mem_cons_of_mem _ aF_X8_36)
  have l_ml128 := hts _ (List.mem_cons_of_mem _ aM_X8_128)
  have l_msmin := hts _ (List.mem_cons_of_mem _ aT_J9_min_7cf53)
  have l_mi := hts _ (List.mem_cons_of_mem _ aN_J9)
  have l_mcmin := hts _ (List.mem_cons_of_mem _ aC_J9_min_7cf53)
  have h_X8 : ∀ w ∈ wsX80, w.before _ s = true := fun w hw => hts w (List.mem_cons_of_mem _ (hwX8 w hw))
  have hS : va_S (AC a 30 s.heap.size) s.heap s.heap [] := va_S.rf
  have hl := lv_entry ([.ref (a 0), .int p1, .int p2, .int p3]) (n := 7) (Nat.le_of_ble_eq_true rfl)
  rw [lg_entry_eq]
  generalize (lg_sl ([.ref (a 0), .int p1, .int p2, .int p3]) ++ List.replicate (7 - (lg_sl ([.ref (a 0), .int p1, .int p2, .int p3])).length) Slot.unset).toArray = ls at hl ⊢
  have hl : lv_has ls 7 [(0, .ref (a 0)), (1, .int p1), (2, .int p2), (3, .int p3)] := hl
  have L_247 : ∀ (s2 : St) (v1 : Int32) (H : Heap) (locs : List Loc) (ls : Array Slot), va_P D vwCl (wM y a s2) H → va_S (AC a 30 s.heap.size) s.heap H locs → lv_has ls 7 [(0, .ref (a 0)), (5, .int v1)] → mX8_known_247 s2 v1 = some (r, τ) → W p l e (headSpec zX8_known ({ frames := 1, cells := 0, slots := 0, locals := 24 })).room s m ([.ref (a 0), .int p1, .int p2, .int p3] : List Value).toArray below meth c H locs 0 0 (MQ below (va_Qi (fun r' u => r' = r ∧ u = τ) (posW (wM y a) D) (AC a 30 s.heap.size)) ([.ref (a 0), .int p1, .int p2, .int p3] : List Value).toArray s 0 0 (AC a 30 s.heap.size)) (F0 m 247 ls []) := by
    intro s2 v1 H locs ls hP hS hl hm
    unfold mX8_known_247 at hm
    refine lv_aload_n hx hb dX8_known_247 rfl (lv_at hl 0 rfl) ?_
    refine lv_dup hx hb dX8_known_248 rfl ?_
    refine gfX8_formulas hx hb h_X8 hown hK hP l_f109 dX8_known_249 ?_
    refine lv_iconst (v := 1) hx hb dX8_known_252 (by decide) ?_
    refine lv_iadd hx hb dX8_known_253 ?_
    refine pfX8_formulas hx hb h_X8 hown hK hP hI AC_in hS l_f109 dX8_known_254 (fun H locs hP hS => ?_)
    generalize es3 : su s2 5 (fun _ => (s2.1 5 0) + 1) = s3 at hP
    have hm := bnd_x es3.symm hm
    refine lv_iload hx hb dX8_known_257 (lv_at hl 1 rfl) ?_
    exact W.iret (v := v1) hx hb hr (fun T hT hW => ⟨⟨v1, s3, rfl, ⟨congrArg Prod.fst (Option.some.inj hm), congrArg Prod.snd (Option.some.inj hm)⟩, by rw [posW, hT]; exact hP⟩, hS.F hT⟩) hS.2.2 dX8_known_259
  have L_154 : ∀ (n : Nat) (s48 : St) (v43 : Int32) (v44 : Int32) (v45 : Int32) (v46 : Int32) (v47 : Int32) (H : Heap) (locs : List Loc) (ls : Array Slot), va_P D vwCl (wM y a s48) H → va_S (AC a 30 s.heap.size) s.heap H locs → lv_has ls 7 [(0, .ref (a 0)), (1, .int v43), (2, .int v44), (3, .int v45), (5, .int v46), (6, .int v47)] → mX8_known_154 n s48 v43 v44 v45 v46 v47 = some (r, τ) → W p l e (headSpec zX8_known ({ frames := 1, cells := 0, slots := 0, locals := 24 })).room s m ([.ref (a 0), .int p1, .int p2, .int p3] : List Value).toArray below meth c H locs 0 0 (MQ below (va_Qi (fun r' u => r' = r ∧ u = τ) (posW (wM y a) D) (AC a 30 s.heap.size)) ([.ref (a 0), .int p1, .int p2, .int p3] : List Value).toArray s 0 0 (AC a 30 s.heap.size)) (F0 m 154 ls []) := by
    intro n
    induction n with
    | zero =>
      intro s48 v43 v44 v45 v46 v47 H locs ls hP hS hl hm
      exact absurd (show (none : Option (Int32 × St)) = some (r, τ) from hm) (by intro h; cases h)
    | succ n ih154 =>
      obtain ⟨kh154, ekh154⟩ : ∃ z, z = mX8_known_154 n := ⟨_, rfl⟩
      have ih154 : ∀ (s48 : St) (v43 : Int32) (v44 : Int32) (v45 : Int32) (v46 : Int32) (v47 : Int32) (H : Heap) (locs : List Loc) (ls : Array Slot), va_P D vwCl (wM y a s48) H → va_S (AC a 30 s.heap.size) s.heap H locs → lv_has ls 7 [(0, .ref (a 0)), (1, .int v43), (2, .int v44), (3, .int v45), (5, .int v46), (6, .int v47)] → kh154 s48 v43 v44 v45 v46 v47 = some (r, τ) → W p l e (headSpec zX8_known ({ frames := 1, cells := 0, slots := 0, locals := 24 })).room s m ([.ref (a 0), .int p1, .int p2, .int p3] : List Value).toArray below meth c H locs 0 0 (MQ below (va_Qi (fun r' u => r' = r ∧ u = τ) (posW (wM y a) D) (AC a 30 s.heap.size)) ([.ref (a 0), .int p1, .int p2, .int p3] : List Value).toArray s 0 0 (AC a 30 s.heap.size)) (F0 m 154 ls []) := by rw [ekh154]; exact ih154
      have L_240 : ∀ (s11 : St) (v4 : Int32) (v5 : Int32) (v6 : Int32) (v7 : Int32) (v8 : Int32) (v9 : Int32) (v10 : Int32) (H : Heap) (locs : List Loc) (ls : Array Slot), va_P D vwCl (wM y a s11) H → va_S (AC a 30 s.heap.size) s.heap H locs → lv_has ls 7 [(0, .ref (a 0)), (1, .int v4), (2, .int v5), (3, .int v6), (5, .int v7), (6, .int v8)] → mX8_known_240 kh154 s11 v4 v5 v6 v7 v8 v9 v10 = some (r, τ) → W p l e (headSpec zX8_known ({ frames := 1, cells := 0, slots := 0, locals := 24 })).room s m ([.ref (a 0), .int p1, .int p2, .int p3] : List Value).toArray below meth c H locs 0 0 (MQ below (va_Qi (fun r' u => r' = r ∧ u = τ) (posW (wM y a) D) (AC a 30 s.heap.size)) ([.ref (a 0), .int p1, .int p2, .int p3] : List Value).toArray s 0 0 (AC a 30 s.heap.size)) (F0 m 240 ls [.int v9, .int v10, .ref (a 8)]) := by
        intro s11 v4 v5 v6 v7 v8 v9 v10 H locs ls hP hS hl hm
        unfold mX8_known_240 at hm
        obtain ⟨hi, hm⟩ := ok_I hm
        refine stM_8 hx hb hK hP hI AC_in hS hi dX8_known_240 (fun H locs hP hS => ?_)
        generalize es12 : su s11 20 (upd (s11.1 20) v10.toNatClampNeg (vp_nar .boolean v9)) = s12 at hP
        have hm := bnd_x es12.symm hm
        obtain ⟨x13, ex13⟩ : ∃ z : Int32, z = v8 + 1 := ⟨_, rfl⟩
        have hm := bnd_x ex13 hm
        refine lv_iinc (v := x13) (lv' := [(6, .int x13), (0, .ref (a 0)), (1, .int v4), (2, .int v5), (3, .int v6), (5, .int v7)]) hx hb dX8_known_241 hl (k := 5) rfl (by rw [ex13]; rfl) (by decide) rfl (fun ls hl => ?_)
        refine lv_goto (tgt := 154) hx hb dX8_known_244 (by decide) ?_
        exact ih154 s12 v4 v5 v6 v7 x13 _ _ _ hP hS (lv_sub hl [1, 2, 3, 4, 5, 0] rfl) hm
      have L_239 : ∀ (s20 : St) (v14 : Int32) (v15 : Int32) (v16 : Int32) (v17 : Int32) (v18 : Int32) (v19 : Int32) (H : Heap) (locs : List Loc) (ls : Array Slot), va_P D vwCl (wM y a s20) H → va_S (AC a 30 s.heap.size) s.heap H locs → lv_has ls 7 [(0, .ref (a 0)), (1, .int v14), (2, .int v15), (3, .int v16), (5, .int v17), (6, .int v18)] → mX8_known_239 kh154 s20 v14 v15 v16 v17 v18 v19 = some (r, τ) → W p l e (headSpec zX8_known ({ frames := 1, cells := 0, slots := 0, locals := 24 })).room s m ([.ref (a 0), .int p1, .int p2, .int p3] : List Value).toArray below meth c H locs 0 0 (MQ below (va_Qi (fun r' u => r' = r ∧ u = τ) (posW (wM y a) D) (AC a 30 s.heap.size)) ([.ref (a 0), .int p1, .int p2, .int p3] : List Value).toArray s 0 0 (AC a 30 s.heap.size)) (F0 m 239 ls [.int v19, .ref (a 8)]) := by
        intro s20 v14 v15 v16 v17 v18 v19 H locs ls hP hS hl hm
        unfold mX8_known_239 at hm
        refine lv_iconst (v := 0) hx hb dX8_known_239 (by decide) ?_
        exact L_240 s20 v14 v15 v16 v17 v18 0 v19 _ _ _ hP hS (lv_sub hl [0, 1, 2, 3, 4, 5] rfl) hm
      have L_229 : ∀ (s30 : St) (v21 : Int32) (v22 : Int32) (v23 : Int32) (v24 : Int32) (v25 : Int32) (v26 : Int32) (v27 : Int32) (v28 : Int32) (v29 : Int32) (H : Heap) (locs : List Loc) (ls : Array Slot), va_P D vwCl (wM y a s30) H → va_S (AC a 30 s.heap.size) s.heap H locs → lv_has ls 7 [(0, .ref (a 0)), (1, .int v21), (2, .int v22), (3, .int v23), (5, .int v24), (6, .int v25)] → mX8_known_229 kh154 s30 v21 v22 v23 v24 v25 v26 v27 v28 v29 = some (r, τ) → W p l e (headSpec zX8_known ({ frames := 1, cells := 0, slots := 0, locals := 24 })).room s m ([.ref (a 0), .int p1, .int p2, .int p3] : List Value).toArray below meth c H locs 0 0 (MQ below (va_Qi (fun r' u => r' = r ∧ u = τ) (posW (wM y a) D) (AC a 30 s.heap.size)) ([.ref (a 0), .int p1, .int p2, .int p3] : List Value).toArray s 0 0 (AC a 30 s.heap.size)) (F0 m 229 ls [.int v26, .int v27, .int v28, .int v29, .ref (a 8)]) := by
        intro s30 v21 v22 v23 v24 v25 v26 v27 v28 v29 H locs ls hP hS hl hm
        unfold mX8_known_229 at hm
        obtain ⟨r31, h32, hm⟩ := ok_bind hm
        refine calS_i (As := [.int v28, .int v27, .int v26]) (rest := [.int v29, .ref (a 8)]) ⟨hx, hb, hml, hown, hts⟩ (kX8_told l D y a t hI _ s30 v28 v27 v26 r31 h32) (va_cwS 3 hts (gAS aM_X8_138 aT_X8_told aN_X8 aC_X8_told) rfl rfl rfl eX8_told ⟨Nat.le_of_ble_eq_true rfl, Nat.le_of_ble_eq_true rfl⟩) (preS_W hK hP hF hS) rfl hl.1 rfl (Nat.le_of_ble_eq_true rfl) dX8_known_229 ⟨Nat.zero_le _, Nat.zero_le _⟩ hS (AC_le hS.1) (fun H locs hP hS hk1 => ?_)
        refine lv_if_eq (tgt := 239) hx hb dX8_known_232 (by decide) (fun c33 => ?_) (fun c33 => ?_)
        · have hm := (if_pos c33).symm.trans hm
          exact L_239 s30 v21 v22 v23 v24 v25 v29 _ _ _ hP hS (lv_sub hl [0, 1, 2, 3, 4, 5] rfl) hm
        · have hm := (if_neg c33).symm.trans hm
          refine lv_iconst (v := 1) hx hb dX8_known_235 (by decide) ?_
          refine lv_goto (tgt := 240) hx hb dX8_known_236 (by decide) ?_
          exact L_240 s30 v21 v22 v23 v24 v25 1 v29 _ _ _ hP hS (lv_sub hl [0, 1, 2, 3, 4, 5] rfl) hm
      have L_228 : ∀ (s42 : St) (v34 : Int32) (v35 : Int32) (v36 : Int32) (v37 : Int32) (v38 : Int32) (v39 : Int32) (v40 : Int32) (v41 : Int32) (H : Heap) (locs : List Loc) (ls : Array Slot), va_P D vwCl (wM y a s42) H → va_S (AC a 30 s.heap.size) s.heap H locs → lv_has ls 7 [(0, .ref (a 0)), (1, .int v34), (2, .int v35), (3, .int v36), (5, .int v37), (6, .int v38)] → mX8_known_228 kh154 s42 v34 v35 v36 v37 v38 v39 v40 v41 = some (r, τ) → W p l e (headSpec zX8_known ({ frames := 1, cells := 0, slots := 0, locals := 24 })).room s m ([.ref (a 0), .int p1, .int p2, .int p3] : List Value).toArray below meth c H locs 0 0 (MQ below (va_Qi (fun r' u => r' = r ∧ u = τ) (posW (wM y a) D) (AC a 30 s.heap.size)) ([.ref (a 0), .int p1, .int p2, .int p3] : List Value).toArray s 0 0 (AC a 30 s.heap.size)) (F0 m 228 ls [.int v39, .int v40, .int v41, .ref (a 8)]) := by
        intro s42 v34 v35 v36 v37 v38 v39 v40 v41 H locs ls hP hS hl hm
        unfold mX8_known_228 at hm
        refine lv_iconst (v := 0) hx hb dX8_known_228 (by decide) ?_
        exact L_229 s42 v34 v35 v36 v37 v38 0 v39 v40 v41 _ _ _ hP hS (lv_sub hl [0, 1, 2, 3, 4, 5] rfl) hm
      intro s48 v43 v44 v45 v46 v47 H locs ls hP hS hl hm
      have hm : bX8_known_154 (mX8_known_154 n) s48 v43 v44 v45 v46 v47 = some (r, τ) := hm
      rw [← ekh154] at hm
      unfold bX8_known_154 at hm
      refine lv_iload hx hb dX8_known_154 (lv_at hl 5 rfl) ?_
      refine lv_sipush (v := 256) hx hb dX8_known_156 (by decide) ?_
      refine lv_icmp_ge (tgt := 247) hx hb dX8_known_159 (by decide) (fun c49 => ?_) (fun c49 => ?_)
      · have hm := (if_pos c49).symm.trans hm
        exact L_247 s48 v46 _ _ _ hP hS (lv_sub hl [0, 4] rfl) hm
      · have hm := (if_neg c49).symm.trans hm
        refine lv_aload_n hx hb dX8_known_162 rfl (lv_at hl 0 rfl) ?_
        refine gfX8_truths hx hb h_X8 hown hK hP l_f36 dX8_known_163 ?_
        refine lv_iload hx hb dX8_known_166 (lv_at hl 4 rfl) ?_
        refine lv_bipush (v := 8) hx hb dX8_known_168 (by decide) ?_
        refine lv_ishl hx hb dX8_known_170 ?_
        refine lv_iload hx hb dX8_known_171 (lv_at hl 5 rfl) ?_
        refine lv_ior hx hb dX8_known_173 ?_
        refine lv_iload_n hx hb dX8_known_174 rfl (lv_at hl 1 rfl) ?_
        refine lv_if_ne (tgt := 196) hx hb dX8_known_175 (by decide) (fun c50 => ?_) (fun c50 => ?_)
        · have hm := (if_neg c50).symm.trans hm
          refine lv_iload_n hx hb dX8_known_196 rfl (lv_at hl 1 rfl) ?_
          refine lv_iconst (v := 1) hx hb dX8_known_197 (by decide) ?_
          refine lv_icmp_eq (tgt := 239) hx hb dX8_known_198 (by decide) (fun c51 => ?_) (fun c51 => ?_)
          · have hm := (if_pos c51).symm.trans hm
            exact L_239 s48 v43 v44 v45 v46 v47 ((v46 <<< (8 &&& 31)) ||| v47) _ _ _ hP hS (lv_sub hl [0, 1, 2, 3, 4, 5] rfl) hm
          · have hm := (if_neg c51).symm.trans hm
            refine lv_iload_n hx hb dX8_known_201 rfl (lv_at hl 1 rfl) ?_
            refine lv_aload_n hx hb dX8_known_202 rfl (lv_at hl 0 rfl) ?_
            refine lv_iload_n hx hb dX8_known_203 rfl (lv_at hl 2 rfl) ?_
            refine lv_iload hx hb dX8_known_204 (lv_at hl 5 rfl) ?_
            obtain ⟨r52, h53, hm⟩ := ok_bind hm
            refine calV_i (As := [.int v44, .int v47]) (rest := [.int v43, .int ((v46 <<< (8 &&& 31)) ||| v47), .ref (a 8)]) ⟨hx, hb, hml, hown, hts⟩ (kX8_isTrueAt l D y a t hI _ s48 v44 v47 r52 h53) (cwV 2 hts (gAV aM_X8_134 aI_X8_isTrueAt aS_X8_isTrueAt aN_X8 aC_X8_isTrueAt) rfl rfl rfl eX8_isTrueAt ⟨Nat.le_of_ble_eq_true rfl, Nat.le_of_ble_eq_true rfl⟩) (preV_W (ci := 8) (q := (RX8, TX8, 42)) hK hP hF hS rfl (wM_0 y a s48)) rfl hl.1 rfl (Nat.le_of_ble_eq_true rfl) dX8_known_206 ⟨Nat.zero_le _, Nat.zero_le _⟩ hS (AC_le hS.1) (fun H locs hP hS hk1 => ?_)
            refine lv_iload_n hx hb dX8_known_209 rfl (lv_at hl 3 rfl) ?_
            refine lv_iconst (v := (-1)) hx hb dX8_known_210 (by decide) ?_
            refine lv_icmp_eq (tgt := 228) hx hb dX8_known_211 (by decide) (fun c54 => ?_) (fun c54 => ?_)
            · have hm := (if_pos c54).symm.trans hm
              exact L_228 s48 v43 v44 v45 v46 v47 r52 v43 ((v46 <<< (8 &&& 31)) ||| v47) _ _ _ hP hS (lv_sub hl [0, 1, 2, 3, 4, 5] rfl) hm
            · have hm := (if_neg c54).symm.trans hm
              refine lv_aload_n hx hb dX8_known_214 rfl (lv_at hl 0 rfl) ?_
              refine lv_iload_n hx hb dX8_known_215 rfl (lv_at hl 3 rfl) ?_
              refine lv_iload hx hb dX8_known_216 (lv_at hl 5 rfl) ?_
              obtain ⟨r55, h56, hm⟩ := ok_bind hm
              refine calV_i (As := [.int v45, .int v47]) (rest := [.int r52, .int v43, .int ((v46 <<< (8 &&& 31)) ||| v47), .ref (a 8)]) ⟨hx, hb, hml, hown, hts⟩ (kX8_isTrueAt l D y a t hI _ s48 v45 v47 r55 h56) (cwV 2 hts (gAV aM_X8_134 aI_X8_isTrueAt aS_X8_isTrueAt aN_X8 aC_X8_isTrueAt) rfl rfl rfl eX8_isTrueAt ⟨Nat.le_of_ble_eq_true rfl, Nat.le_of_ble_eq_true rfl⟩) (preV_W (ci := 8) (q := (RX8, TX8, 42)) hK hP hF hS rfl (wM_0 y a s48)) rfl hl.1 rfl (Nat.le_of_ble_eq_true rfl) dX8_known_218 ⟨Nat.zero_le _, Nat.zero_le _⟩ hS (AC_le hS.1) (fun H locs hP hS hk1 => ?_)
              refine lv_if_eq (tgt := 228) hx hb dX8_known_221 (by decide) (fun c57 => ?_) (fun c57 => ?_)
              · have hm := (if_pos c57).symm.trans hm
                exact L_228 s48 v43 v44 v45 v46 v47 r52 v43 ((v46 <<< (8 &&& 31)) ||| v47) _ _ _ hP hS (lv_sub hl [0, 1, 2, 3, 4, 5] rfl) hm
              · have hm := (if_neg c57).symm.trans hm
                refine lv_iconst (v := 1) hx hb dX8_known_224 (by decide) ?_
                refine lv_goto (tgt := 229) hx hb dX8_known_225 (by decide) ?_
                exact L_229 s48 v43 v44 v45 v46 v47 1 r52 v43 ((v46 <<< (8 &&& 31)) ||| v47) _ _ _ hP hS (lv_sub hl [0, 1, 2, 3, 4, 5] rfl) hm
        · have hm := (if_pos c50).symm.trans hm
          refine lv_iload hx hb dX8_known_178 (lv_at hl 5 rfl) ?_
          refine lv_iload_n hx hb dX8_known_180 rfl (lv_at hl 2 rfl) ?_
          refine lv_ishr hx hb dX8_known_181 ?_
          refine lv_iconst (v := 1) hx hb dX8_known_182 (by decide) ?_
          refine lv_iand hx hb dX8_known_183 ?_
          refine lv_iconst (v := 1) hx hb dX8_known_184 (by decide) ?_
          refine lv_icmp_ne (tgt := 192) hx hb dX8_known_185 (by decide) (fun c58 => ?_) (fun c58 => ?_)
          · have hm := (if_neg c58).symm.trans hm
            refine lv_iconst (v := 0) hx hb dX8_known_192 (by decide) ?_
            refine lv_goto (tgt := 240) hx hb dX8_known_193 (by decide) ?_
            exact L_240 s48 v43 v44 v45 v46 v47 0 ((v46 <<< (8 &&& 31)) ||| v47) _ _ _ hP hS (lv_sub hl [0, 1, 2, 3, 4, 5] rfl) hm
          · have hm := (if_pos c58).symm.trans hm
            refine lv_iconst (v := 1) hx hb dX8_known_188 (by decide) ?_
            refine lv_goto (tgt := 240) hx hb dX8_known_189 (by decide) ?_
            exact L_240 s48 v43 v44 v45 v46 v47 1 ((v46 <<< (8 &&& 31)) ||| v47) _ _ _ hP hS (lv_sub hl [0, 1, 2, 3, 4, 5] rfl) hm
  have L_150 : ∀ (s65 : St) (v59 : Int32) (v60 : Int32) (v61 : Int32) (v62 : Int32) (v63 : Int32) (v64 : Int32) (H : Heap) (locs : List Loc) (ls : Array Slot), va_P D vwCl (wM y a s65) H → va_S (AC a 30 s.heap.size) s.heap H locs → lv_has ls 7 [(0, .ref (a 0)), (1, .int v59), (2, .int v60), (3, .int v61), (5, .int v62)] → mX8_known_150 s65 v59 v60 v61 v62 v63 v64 = some (r, τ) → W p l e (headSpec zX8_known ({ frames := 1, cells := 0, slots := 0, locals := 24 })).room s m ([.ref (a 0), .int p1, .int p2, .int p3] : List Value).toArray below meth c H locs 0 0 (MQ below (va_Qi (fun r' u => r' = r ∧ u = τ) (posW (wM y a) D) (AC a 30 s.heap.size)) ([.ref (a 0), .int p1, .int p2, .int p3] : List Value).toArray s 0 0 (AC a 30 s.heap.size)) (F0 m 150 ls [.int v63, .int v64, .ref (a 7)]) := by
    intro s65 v59 v60 v61 v62 v63 v64 H locs ls hP hS hl hm
    unfold mX8_known_150 at hm
    obtain ⟨hi, hm⟩ := ok_I hm
    refine stM_7 hx hb hK hP hI AC_in hS hi dX8_known_150 (fun H locs hP hS => ?_)
    generalize es66 : su s65 19 (upd (s65.1 19) v64.toNatClampNeg v63) = s66 at hP
    have hm := bnd_x es66.symm hm
    refine lv_iconst (v := 0) hx hb dX8_known_151 (by decide) ?_
    refine lv_istore (lv' := [(6, .int 0), (0, .ref (a 0)), (1, .int v59), (2, .int v60), (3, .int v61), (5, .int v62)]) hx hb dX8_known_152 hl (by decide) rfl (fun ls hl => ?_)
    exact L_154 NF s66 v59 v60 v61 v62 0 _ _ _ hP hS (lv_sub hl [1, 2, 3, 4, 5, 0] rfl) hm
  have L_146 : ∀ (s75 : St) (v67 : Int32) (v68 : Int32) (v69 : Int32) (v70 : Int32) (v71 : Int32) (v72 : Int32) (v73 : Int32) (v74 : Int32) (H : Heap) (locs : List Loc) (ls : Array Slot), va_P D vwCl (wM y a s75) H → va_S (AC a 30 s.heap.size) s.heap H locs → lv_has ls 7 [(0, .ref (a 0)), (1, .int v67), (2, .int v68), (3, .int v69), (5, .int v70)] → mX8_known_146 s75 v67 v68 v69 v70 v71 v72 v73 v74 = some (r, τ) → W p l e (headSpec zX8_known ({ frames := 1, cells := 0, slots := 0, locals := 24 })).room s m ([.ref (a 0), .int p1, .int p2, .int p3] : List Value).toArray below meth c H locs 0 0 (MQ below (va_Qi (fun r' u => r' = r ∧ u = τ) (posW (wM y a) D) (AC a 30 s.heap.size)) ([.ref (a 0), .int p1, .int p2, .int p3] : List Value).toArray s 0 0 (AC a 30 s.heap.size)) (F0 m 146 ls [.int v71, .int v72, .int v73, .int v74, .ref (a 7)]) := by
    intro s75 v67 v68 v69 v70 v71 v72 v73 v74 H locs ls hP hS hl hm
    unfold mX8_known_146 at hm
    refine lv_iadd hx hb dX8_known_146 ?_
    refine va_mmin hx hb (hml.trans hl.1.symm) hown l_ml128 l_msmin l_mi l_mcmin (Nat.le_of_ble_eq_true rfl) (Nat.le_of_ble_eq_true rfl) (Nat.zero_le _) (Nat.zero_le _) dX8_known_147 ?_
    exact L_150 s75 v67 v68 v69 v70 (if (v72 + v71) < v73 then v72 + v71 else v73) v74 _ _ _ hP hS (lv_sub hl [0, 1, 2, 3, 4] rfl) hm
  have L_105 : ∀ (s82 : St) (v76 : Int32) (v77 : Int32) (v78 : Int32) (v79 : Int32) (v80 : Int32) (v81 : Int32) (H : Heap) (locs : List Loc) (ls : Array Slot), va_P D vwCl (wM y a s82) H → va_S (AC a 30 s.heap.size) s.heap H locs → lv_has ls 7 [(0, .ref (a 0)), (1, .int v76), (2, .int v77), (3, .int v78), (5, .int v79)] → mX8_known_105 s82 v76 v77 v78 v79 v80 v81 = some (r, τ) → W p l e (headSpec zX8_known ({ frames := 1, cells := 0, slots := 0, locals := 24 })).room s m ([.ref (a 0), .int p1, .int p2, .int p3] : List Value).toArray below meth c H locs 0 0 (MQ below (va_Qi (fun r' u => r' = r ∧ u = τ) (posW (wM y a) D) (AC a 30 s.heap.size)) ([.ref (a 0), .int p1, .int p2, .int p3] : List Value).toArray s 0 0 (AC a 30 s.heap.size)) (F0 m 105 ls [.int v80, .int v81, .ref (a 6)]) := by
    intro s82 v76 v77 v78 v79 v80 v81 H locs ls hP hS hl hm
    unfold mX8_known_105 at hm
    obtain ⟨hi, hm⟩ := ok_I hm
    refine stM_6 hx hb hK hP hI AC_in hS hi dX8_known_105 (fun H locs hP hS => ?_)
    generalize es83 : su s82 18 (upd (s82.1 18) v81.toNatClampNeg v80) = s83 at hP
    have hm := bnd_x es83.symm hm
    refine lv_aload_n hx hb dX8_known_106 rfl (lv_at hl 0 rfl) ?_
    refine gfX8_sizes hx hb h_X8 hown hK hP l_f32 dX8_known_107 ?_
    refine lv_iload hx hb dX8_known_110 (lv_at hl 4 rfl) ?_
    refine lv_iload_n hx hb dX8_known_112 rfl (lv_at hl 1 rfl) ?_
    refine lv_iconst (v := 2) hx hb dX8_known_113 (by decide) ?_
    refine lv_icmp_ge (tgt := 121) hx hb dX8_known_114 (by decide) (fun c84 => ?_) (fun c84 => ?_)
    · have hm := (if_pos c84).symm.trans hm
      refine lv_ldc (v := 1000000) hx hb hown l_c127 dX8_known_121 ?_
      refine lv_iconst (v := 1) hx hb dX8_known_123 (by decide) ?_
      refine lv_aload_n hx hb dX8_known_124 rfl (lv_at hl 0 rfl) ?_
      refine gfX8_sizes hx hb h_X8 hown hK hP l_f32 dX8_known_125 ?_
      refine lv_iload_n hx hb dX8_known_128 rfl (lv_at hl 2 rfl) ?_
      obtain ⟨hi, hm⟩ := ok_I hm
      refine ldM_7 hx hb hK hP hi dX8_known_129 ?_
      refine lv_iadd hx hb dX8_known_130 ?_
      refine lv_iload_n hx hb dX8_known_131 rfl (lv_at hl 3 rfl) ?_
      refine lv_iconst (v := (-1)) hx hb dX8_known_132 (by decide) ?_
      refine lv_icmp_ne (tgt := 140) hx hb dX8_known_133 (by decide) (fun c85 => ?_) (fun c85 => ?_)
      · have hm := (if_neg c85).symm.trans hm
        refine lv_aload_n hx hb dX8_known_140 rfl (lv_at hl 0 rfl) ?_
        refine gfX8_sizes hx hb h_X8 hown hK hP l_f32 dX8_known_141 ?_
        refine lv_iload_n hx hb dX8_known_144 rfl (lv_at hl 3 rfl) ?_
        obtain ⟨hi, hm⟩ := ok_I hm
        refine ldM_7 hx hb hK hP hi dX8_known_145 ?_
        exact L_146 s83 v76 v77 v78 v79 (s83.1 19 v78.toNatClampNeg) (1 + (s83.1 19 v77.toNatClampNeg)) 1000000 v79 _ _ _ hP hS (lv_sub hl [0, 1, 2, 3, 4] rfl) hm
      · have hm := (if_pos c85).symm.trans hm
        refine lv_iconst (v := 0) hx hb dX8_known_136 (by decide) ?_
        refine lv_goto (tgt := 146) hx hb dX8_known_137 (by decide) ?_
        exact L_146 s83 v76 v77 v78 v79 0 (1 + (s83.1 19 v77.toNatClampNeg)) 1000000 v79 _ _ _ hP hS (lv_sub hl [0, 1, 2, 3, 4] rfl) hm
    · have hm := (if_neg c84).symm.trans hm
      refine lv_iconst (v := 1) hx hb dX8_known_117 (by decide) ?_
      refine lv_goto (tgt := 150) hx hb dX8_known_118 (by decide) ?_
      exact L_150 s83 v76 v77 v78 v79 1 v79 _ _ _ hP hS (lv_sub hl [0, 1, 2, 3, 4] rfl) hm
  have L_104 : ∀ (s93 : St) (v86 : Int32) (v87 : Int32) (v88 : Int32) (v89 : Int32) (v90 : Int32) (v91 : Int32) (v92 : Int32) (H : Heap) (locs : List Loc) (ls : Array Slot), va_P D vwCl (wM y a s93) H → va_S (AC a 30 s.heap.size) s.heap H locs → lv_has ls 7 [(0, .ref (a 0)), (1, .int v86), (2, .int v87), (3, .int v88), (5, .int v89)] → mX8_known_104 s93 v86 v87 v88 v89 v90 v91 v92 = some (r, τ) → W p l e (headSpec zX8_known ({ frames := 1, cells := 0, slots := 0, locals := 24 })).room s m ([.ref (a 0), .int p1, .int p2, .int p3] : List Value).toArray below meth c H locs 0 0 (MQ below (va_Qi (fun r' u => r' = r ∧ u = τ) (posW (wM y a) D) (AC a 30 s.heap.size)) ([.ref (a 0), .int p1, .int p2, .int p3] : List Value).toArray s 0 0 (AC a 30 s.heap.size)) (F0 m 104 ls [.int v90, .int v91, .int v92, .ref (a 6)]) := by
    intro s93 v86 v87 v88 v89 v90 v91 v92 H locs ls hP hS hl hm
    unfold mX8_known_104 at hm
    refine lv_ior hx hb dX8_known_104 ?_
    exact L_105 s93 v86 v87 v88 v89 (v91 ||| v90) v92 _ _ _ hP hS (lv_sub hl [0, 1, 2, 3, 4] rfl) hm
  unfold mX8_known at hm
  refine lv_aload_n hx hb dX8_known_0 rfl (lv_at hl 0 rfl) ?_
  refine lv_iload_n hx hb dX8_known_1 rfl (lv_at hl 1 rfl) ?_
  refine lv_iload_n hx hb dX8_known_2 rfl (lv_at hl 2 rfl) ?_
  refine lv_iload_n hx hb dX8_known_3 rfl (lv_at hl 3 rfl) ?_
  obtain ⟨r94, h95, hm⟩ := ok_bind hm
  refine calV_i (As := [.int p1, .int p2, .int p3]) (rest := []) ⟨hx, hb, hml, hown, hts⟩ (kX8_find l D y a t hI _ σ p1 p2 p3 r94 h95) (cwV 3 hts (gAV aM_X8_123 aI_X8_find aS_X8_find aN_X8 aC_X8_find) rfl rfl rfl eX8_find ⟨Nat.le_of_ble_eq_true rfl, Nat.le_of_ble_eq_true rfl⟩) (preV_W (ci := 8) (q := (RX8, TX8, 42)) hK hP hF hS rfl (wM_0 y a σ)) rfl hl.1 rfl (Nat.le_of_ble_eq_true rfl) dX8_known_4 ⟨Nat.zero_le _, Nat.zero_le _⟩ hS (AC_le hS.1) (fun H locs hP hS hk1 => ?_)
  refine lv_istore (lv' := [(4, .int r94), (0, .ref (a 0)), (1, .int p1), (2, .int p2), (3, .int p3)]) hx hb dX8_known_7 hl (by decide) rfl (fun ls hl => ?_)
  refine lv_iload hx hb dX8_known_9 (lv_at hl 0 rfl) ?_
  refine lv_iconst (v := (-1)) hx hb dX8_known_11 (by decide) ?_
  refine lv_icmp_ne (tgt := 25) hx hb dX8_known_12 (by decide) (fun c96 => ?_) (fun c96 => ?_)
  · have hm := (if_neg c96).symm.trans hm
    refine lv_iload hx hb dX8_known_25 (lv_at hl 0 rfl) ?_
    exact W.iret (v := r94) hx hb hr (fun T hT hW => ⟨⟨r94, σ, rfl, ⟨congrArg Prod.fst (Option.some.inj hm), congrArg Prod.snd (Option.some.inj hm)⟩, by rw [posW, hT]; exact hP⟩, hS.F hT⟩) hS.2.2 dX8_known_27
  · have hm := (if_pos c96).symm.trans hm
    refine lv_aload_n hx hb dX8_known_15 rfl (lv_at hl 1 rfl) ?_
    refine gfX8_formulas hx hb h_X8 hown hK hP l_f109 dX8_known_16 ?_
    refine lv_sipush (v := 240) hx hb dX8_known_19 (by decide) ?_
    refine lv_icmp_ne (tgt := 28) hx hb dX8_known_22 (by decide) (fun c97 => ?_) (fun c97 => ?_)
    · have hm := (if_neg c97).symm.trans hm
      refine lv_aload_n hx hb dX8_known_28 rfl (lv_at hl 1 rfl) ?_
      refine gfX8_formulas hx hb h_X8 hown hK hP l_f109 dX8_known_29 ?_
      refine lv_topi (fun x98 ex98 => ?_)
      have hm := bnd_x ex98 hm
      refine lv_istore (lv' := [(5, .int x98), (4, .int r94), (0, .ref (a 0)), (1, .int p1), (2, .int p2), (3, .int p3)]) hx hb dX8_known_32 hl (by decide) rfl (fun ls hl => ?_)
      refine lv_aload_n hx hb dX8_known_34 rfl (lv_at hl 2 rfl) ?_
      refine gfX8_sorts hx hb h_X8 hown hK hP l_f20 dX8_known_35 ?_
      refine lv_iload hx hb dX8_known_38 (lv_at hl 0 rfl) ?_
      refine lv_iload_n hx hb dX8_known_40 rfl (lv_at hl 3 rfl) ?_
      obtain ⟨hi, hm⟩ := ok_I hm
      refine stM_3 hx hb hK hP hI AC_in hS hi dX8_known_41 (fun H locs hP hS => ?_)
      generalize es99 : su σ 15 (upd (σ.1 15) x98.toNatClampNeg p1) = s99 at hP
      have hm := bnd_x es99.symm hm
      refine lv_aload_n hx hb dX8_known_42 rfl (lv_at hl 2 rfl) ?_
      refine gfX8_firsts hx hb h_X8 hown hK hP l_f23 dX8_known_43 ?_
      refine lv_iload hx hb dX8_known_46 (lv_at hl 0 rfl) ?_
      refine lv_iload_n hx hb dX8_known_48 rfl (lv_at hl 4 rfl) ?_
      obtain ⟨hi, hm⟩ := ok_I hm
      refine stM_4 hx hb hK hP hI AC_in hS hi dX8_known_49 (fun H locs hP hS => ?_)
      generalize es100 : su s99 16 (upd (s99.1 16) x98.toNatClampNeg p2) = s100 at hP
      have hm := bnd_x es100.symm hm
      refine lv_aload_n hx hb dX8_known_50 rfl (lv_at hl 2 rfl) ?_
      refine gfX8_seconds hx hb h_X8 hown hK hP l_f26 dX8_known_51 ?_
      refine lv_iload hx hb dX8_known_54 (lv_at hl 0 rfl) ?_
      refine lv_iload_n hx hb dX8_known_56 rfl (lv_at hl 5 rfl) ?_
      obtain ⟨hi, hm⟩ := ok_I hm
      refine stM_5 hx hb hK hP hI AC_in hS hi dX8_known_57 (fun H locs hP hS => ?_)
      generalize es101 : su s100 17 (upd (s100.1 17) x98.toNatClampNeg p3) = s101 at hP
      have hm := bnd_x es101.symm hm
      refine lv_aload_n hx hb dX8_known_58 rfl (lv_at hl 2 rfl) ?_
      refine gfX8_letters hx hb h_X8 hown hK hP l_f29 dX8_known_59 ?_
      refine lv_iload hx hb dX8_known_62 (lv_at hl 0 rfl) ?_
      refine lv_iload_n hx hb dX8_known_64 rfl (lv_at hl 3 rfl) ?_
      refine lv_if_ne (tgt := 74) hx hb dX8_known_65 (by decide) (fun c102 => ?_) (fun c102 => ?_)
      · have hm := (if_neg c102).symm.trans hm
        refine lv_iload_n hx hb dX8_known_74 rfl (lv_at hl 3 rfl) ?_
        refine lv_iconst (v := 1) hx hb dX8_known_75 (by decide) ?_
        refine lv_icmp_ne (tgt := 83) hx hb dX8_known_76 (by decide) (fun c103 => ?_) (fun c103 => ?_)
        · have hm := (if_neg c103).symm.trans hm
          refine lv_aload_n hx hb dX8_known_83 rfl (lv_at hl 2 rfl) ?_
          refine gfX8_letters hx hb h_X8 hown hK hP l_f29 dX8_known_84 ?_
          refine lv_iload_n hx hb dX8_known_87 rfl (lv_at hl 4 rfl) ?_
          obtain ⟨hi, hm⟩ := ok_I hm
          refine ldM_6 hx hb hK hP hi dX8_known_88 ?_
          refine lv_iload_n hx hb dX8_known_89 rfl (lv_at hl 5 rfl) ?_
          refine lv_iconst (v := (-1)) hx hb dX8_known_90 (by decide) ?_
          refine lv_icmp_ne (tgt := 98) hx hb dX8_known_91 (by decide) (fun c104 => ?_) (fun c104 => ?_)
          · have hm := (if_neg c104).symm.trans hm
            refine lv_aload_n hx hb dX8_known_98 rfl (lv_at hl 2 rfl) ?_
            refine gfX8_letters hx hb h_X8 hown hK hP l_f29 dX8_known_99 ?_
            refine lv_iload_n hx hb dX8_known_102 rfl (lv_at hl 5 rfl) ?_
            obtain ⟨hi, hm⟩ := ok_I hm
            refine ldM_6 hx hb hK hP hi dX8_known_103 ?_
            exact L_104 s101 p1 p2 p3 x98 (s101.1 18 p3.toNatClampNeg) (s101.1 18 p2.toNatClampNeg) x98 _ _ _ hP hS (lv_sub hl [2, 3, 4, 5, 0] rfl) hm
          · have hm := (if_pos c104).symm.trans hm
            refine lv_iconst (v := 0) hx hb dX8_known_94 (by decide) ?_
            refine lv_goto (tgt := 104) hx hb dX8_known_95 (by decide) ?_
            exact L_104 s101 p1 p2 p3 x98 0 (s101.1 18 p2.toNatClampNeg) x98 _ _ _ hP hS (lv_sub hl [2, 3, 4, 5, 0] rfl) hm
        · have hm := (if_pos c103).symm.trans hm
          refine lv_iconst (v := 0) hx hb dX8_known_79 (by decide) ?_
          refine lv_goto (tgt := 105) hx hb dX8_known_80 (by decide) ?_
          exact L_105 s101 p1 p2 p3 x98 0 x98 _ _ _ hP hS (lv_sub hl [2, 3, 4, 5, 0] rfl) hm
      · have hm := (if_pos c102).symm.trans hm
        refine lv_iconst (v := 1) hx hb dX8_known_68 (by decide) ?_
        refine lv_iload_n hx hb dX8_known_69 rfl (lv_at hl 4 rfl) ?_
        refine lv_ishl hx hb dX8_known_70 ?_
        refine lv_goto (tgt := 105) hx hb dX8_known_71 (by decide) ?_
        exact L_105 s101 p1 p2 p3 x98 ((1 : Int32) <<< (p2 &&& 31)) x98 _ _ _ hP hS (lv_sub hl [2, 3, 4, 5, 0] rfl) hm
    · have hm := (if_pos c97).symm.trans hm
      refine lv_iload hx hb dX8_known_25 (lv_at hl 0 rfl) ?_
      exact W.iret (v := r94) hx hb hr (fun T hT hW => ⟨⟨r94, σ, rfl, ⟨congrArg Prod.fst (Option.some.inj hm), congrArg Prod.snd (Option.some.inj hm)⟩, by rw [posW, hT]; exact hP⟩, hS.F hT⟩) hS.2.2 dX8_known_27
theorem eX8_part : yX8_part.cls = RX8 ∧ yX8_part.cls ≠ "java/lang/invoke/MethodHandle" ∧ yX8_part.cls ≠ "java/lang/invoke/VarHandle" ∧ (parseMethodDescriptor yX8_part.desc).map (fun d => d.parameters.length) = some 3 := by decide +kernel
def mX8_part (σ : St) (p1 : Int32) (p2 : Int32) (p3 : Int32) : Option (Int32 × St) :=
chkI (σ.1 11 0) 400 (
bnd (su σ 35 (upd (σ.1 35) (σ.1 11 0).toNatClampNeg p1)) fun s1 =>
chkI (s1.1 11 0) 400 (
bnd (su s1 36 (upd (s1.1 36) (s1.1 11 0).toNatClampNeg p2)) fun s2 =>
chkI (s2.1 11 0) 400 (
bnd (su s2 37 (upd (s2.1 37) (s2.1 11 0).toNatClampNeg p3)) fun s3 =>
bnd (su s3 11 (fun _ => (s3.1 11 0) + 1)) fun s4 =>
some ((s4.1 11 0) - 1, s4))))
set_option maxHeartbeats 4000000 in
set_option maxRecDepth 100000 in
theorem kX8_part (l : Launch) (D : va_G) (y : Nat → ClassId) (a t : Nat → Nat) (hI : AI a 30) (sz : Nat) (σ τ : St) (p1 : Int32) (p2 : Int32) (p3 : Int32) (r : Int32) (hm : mX8_part σ p1 p2 p3 = some (r, τ)) : Met l yX8_part zX8_part { frames := 0, cells := 0, slots := 0, locals := 0 } (va_Pc [.ref (a 0), .int p1, .int p2, .int p3] (preW (wM y a) a 30 D y t σ sz)) (va_Qi (fun r' u => r' = r ∧ u = τ) (posW (wM y a) D) (AC a 30 sz)) 0 0 (AC a 30 sz) := by
  refine Met.ofW (cc := cX8_part) (maxL := 4) (ret := (some .int)) (by decide) rfl ?_
  intro p e s m args below meth c s₁ B hml hv
  obtain ⟨rfl, hsz, hP, hK, hF⟩ := hv
  have hx := B.exec
  have hb := B.bytes
  have hr := B.returns
  have hts := atoms_spec (ws := zX8_part) B.pre
  have hown : s.vm.findClass RX8 = some m.cls := findClass_of_methodNamed B.named
  have hlocks := B.notSynchronized
  subst hsz
  have l_f85 := hts _ (List.mem_cons_of_mem _ aF_X8_85)
  have l_f142 := hts _ (List.mem_cons_of_mem _ aF_X8_142)
  have l_f88 := hts _ (List.mem_cons_of_mem _ aF_X8_88)
  have l_f91 := hts _ (List.mem_cons_of_mem _ aF_X8_91)
  have h_X8 : ∀ w ∈ wsX80, w.before _ s = true := fun w hw => hts w (List.mem_cons_of_mem _ (hwX8 w hw))
  have hS : va_S (AC a 30 s.heap.size) s.heap s.heap [] := va_S.rf
  have hl := lv_entry ([.ref (a 0), .int p1, .int p2, .int p3]) (n := 4) (Nat.le_of_ble_eq_true rfl)
  rw [lg_entry_eq]
  generalize (lg_sl ([.ref (a 0), .int p1, .int p2, .int p3]) ++ List.replicate (4 - (lg_sl ([.ref (a 0), .int p1, .int p2, .int p3])).length) Slot.unset).toArray = ls at hl ⊢
  have hl : lv_has ls 4 [(0, .ref (a 0)), (1, .int p1), (2, .int p2), (3, .int p3)] := hl
  unfold mX8_part at hm
  refine lv_aload_n hx hb dX8_part_0 rfl (lv_at hl 0 rfl) ?_
  refine gfX8_partSorts hx hb h_X8 hown hK hP l_f85 dX8_part_1 ?_
  refine lv_aload_n hx hb dX8_part_4 rfl (lv_at hl 0 rfl) ?_
  refine gfX8_parts hx hb h_X8 hown hK hP l_f142 dX8_part_5 ?_
  refine lv_iload_n hx hb dX8_part_8 rfl (lv_at hl 1 rfl) ?_
  obtain ⟨hi, hm⟩ := ok_I hm
  refine stM_23 hx hb hK hP hI AC_in hS hi dX8_part_9 (fun H locs hP hS => ?_)
  generalize es1 : su σ 35 (upd (σ.1 35) (σ.1 11 0).toNatClampNeg p1) = s1 at hP
  have hm := bnd_x es1.symm hm
  refine lv_aload_n hx hb dX8_part_10 rfl (lv_at hl 0 rfl) ?_
  refine gfX8_partA hx hb h_X8 hown hK hP l_f88 dX8_part_11 ?_
  refine lv_aload_n hx hb dX8_part_14 rfl (lv_at hl 0 rfl) ?_
  refine gfX8_parts hx hb h_X8 hown hK hP l_f142 dX8_part_15 ?_
  refine lv_iload_n hx hb dX8_part_18 rfl (lv_at hl 2 rfl) ?_
  obtain ⟨hi, hm⟩ := ok_I hm
  refine stM_24 hx hb hK hP hI AC_in hS hi dX8_part_19 (fun H locs hP hS => ?_)
  generalize es2 : su s1 36 (upd (s1.1 36) (s1.1 11 0).toNatClampNeg p2) = s2 at hP
  have hm := bnd_x es2.symm hm
  refine lv_aload_n hx hb dX8_part_20 rfl (lv_at hl 0 rfl) ?_
  refine gfX8_partB hx hb h_X8 hown hK hP l_f91 dX8_part_21 ?_
  refine lv_aload_n hx hb dX8_part_24 rfl (lv_at hl 0 rfl) ?_
  refine gfX8_parts hx hb h_X8 hown hK hP l_f142 dX8_part_25 ?_
  refine lv_iload_n hx hb dX8_part_28 rfl (lv_at hl 3 rfl) ?_
  obtain ⟨hi, hm⟩ := ok_I hm
  refine stM_25 hx hb hK hP hI AC_in hS hi dX8_part_29 (fun H locs hP hS => ?_)
  generalize es3 : su s2 37 (upd (s2.1 37) (s2.1 11 0).toNatClampNeg p3) = s3 at hP
  have hm := bnd_x es3.symm hm
  refine lv_aload_n hx hb dX8_part_30 rfl (lv_at hl 0 rfl) ?_
  refine lv_dup hx hb dX8_part_31 rfl ?_
  refine gfX8_parts hx hb h_X8 hown hK hP l_f142 dX8_part_32 ?_
  refine lv_iconst (v := 1) hx hb dX8_part_35 (by decide) ?_
  refine lv_iadd hx hb dX8_part_36 ?_
  refine pfX8_parts hx hb h_X8 hown hK hP hI AC_in hS l_f142 dX8_part_37 (fun H locs hP hS => ?_)
  generalize es4 : su s3 11 (fun _ => (s3.1 11 0) + 1) = s4 at hP
  have hm := bnd_x es4.symm hm
  refine lv_aload_n hx hb dX8_part_40 rfl (lv_at hl 0 rfl) ?_
  refine gfX8_parts hx hb h_X8 hown hK hP l_f142 dX8_part_41 ?_
  refine lv_iconst (v := 1) hx hb dX8_part_44 (by decide) ?_
  refine lv_isub hx hb dX8_part_45 ?_
  exact W.iret (v := (s4.1 11 0) - 1) hx hb hr (fun T hT hW => ⟨⟨(s4.1 11 0) - 1, s4, rfl, ⟨congrArg Prod.fst (Option.some.inj hm), congrArg Prod.snd (Option.some.inj hm)⟩, by rw [posW, hT]; exact hP⟩, hS.F hT⟩) hS.2.2 dX8_part_46
theorem eX8_here : yX8_here.cls = RX8 ∧ yX8_here.cls ≠ "java/lang/invoke/MethodHandle" ∧ yX8_here.cls ≠ "java/lang/invoke/VarHandle" ∧ (parseMethodDescriptor yX8_here.desc).map (fun d => d.parameters.length) = some 0 := by decide +kernel
def mX8_here_38 (s1 : St) : Option (Int32 × St) :=
if (s1.1 1 0) ≤ (s1.1 3 0) then (
some ((-1), s1))
else (
chkI (s1.1 3 0) 400 (
some (s1.1 13 (s1.1 3 0).toNatClampNeg, s1)))
def bX8_here_0 (kh0 : St → Option (Int32 × St)) (s3 : St) : Option (Int32 × St) :=
if (s3.1 1 0) ≤ (s3.1 3 0) then (
mX8_here_38 s3)
else (
chkI (s3.1 3 0) 400 (
if (s3.1 13 (s3.1 3 0).toNatClampNeg) = 32 then (
bnd (su s3 3 (fun _ => (s3.1 3 0) + 1)) fun s6 =>
kh0 s6)
else (
mX8_here_38 s3)))
abbrev mX8_here_0 (n : Nat) : St → Option (Int32 × St) := fx (fun _ => none) (bX8_here_0) n
def mX8_here (σ : St) : Option (Int32 × St) :=
mX8_here_0 NF σ
set_option maxHeartbeats 4000000 in
set_option maxRecDepth 100000 in
theorem kX8_here (l : Launch) (D : va_G) (y : Nat → ClassId) (a t : Nat → Nat) (hI : AI a 30) (sz : Nat) (σ τ : St) (r : Int32) (hm : mX8_here σ = some (r, τ)) : Met l yX8_here zX8_here { frames := 0, cells := 0, slots := 0, locals := 0 } (va_Pc [.ref (a 0)] (preW (wM y a) a 30 D y t σ sz)) (va_Qi (fun r' u => r' = r ∧ u = τ) (posW (wM y a) D) (AC a 30 sz)) 0 0 (AC a 30 sz) := by
  refine Met.ofW (cc := cX8_here) (maxL := 1) (ret := (some .int)) (by decide) rfl ?_
  intro p e s m args below meth c s₁ B hml hv
  obtain ⟨rfl, hsz, hP, hK, hF⟩ := hv
  have hx := B.exec
  have hb := B.bytes
  have hr := B.returns
  have hts := atoms_spec (ws := zX8_here) B.pre
  have hown : s.vm.findClass RX8 = some m.cls := findClass_of_methodNamed B.named
  have hlocks := B.notSynchronized
  subst hsz
  have l_f145 := hts _ (List.mem_cons_of_mem _ aF_X8_145)
  have l_f116 := hts _ (List.mem_cons_of_mem _ aF_X8_116)
  have l_f9 := hts _ (List.mem_cons_of_mem _ aF_X8_9)
  have h_X8 : ∀ w ∈ wsX80, w.before _ s = true := fun w hw => hts w (List.mem_cons_of_mem _ (hwX8 w hw))
  have hS : va_S (AC a 30 s.heap.size) s.heap s.heap [] := va_S.rf
  have hl := lv_entry ([.ref (a 0)]) (n := 1) (Nat.le_of_ble_eq_true rfl)
  rw [lg_entry_eq]
  generalize (lg_sl ([.ref (a 0)]) ++ List.replicate (1 - (lg_sl ([.ref (a 0)])).length) Slot.unset).toArray = ls at hl ⊢
  have hl : lv_has ls 1 [(0, .ref (a 0))] := hl
  have L_38 : ∀ (s1 : St) (H : Heap) (locs : List Loc) (ls : Array Slot), va_P D vwCl (wM y a s1) H → va_S (AC a 30 s.heap.size) s.heap H locs → lv_has ls 1 [(0, .ref (a 0))] → mX8_here_38 s1 = some (r, τ) → W p l e (headSpec zX8_here ({ frames := 0, cells := 0, slots := 0, locals := 0 })).room s m ([.ref (a 0)] : List Value).toArray below meth c H locs 0 0 (MQ below (va_Qi (fun r' u => r' = r ∧ u = τ) (posW (wM y a) D) (AC a 30 s.heap.size)) ([.ref (a 0)] : List Value).toArray s 0 0 (AC a 30 s.heap.size)) (F0 m 38 ls []) := by
    intro s1 H locs ls hP hS hl hm
    unfold mX8_here_38 at hm
    refine lv_aload_n hx hb dX8_here_38 rfl (lv_at hl 0 rfl) ?_
    refine gfX8_at hx hb h_X8 hown hK hP l_f145 dX8_here_39 ?_
    refine lv_aload_n hx hb dX8_here_42 rfl (lv_at hl 0 rfl) ?_
    refine gfX8_length hx hb h_X8 hown hK hP l_f116 dX8_here_43 ?_
    refine lv_icmp_ge (tgt := 61) hx hb dX8_here_46 (by decide) (fun c2 => ?_) (fun c2 => ?_)
    · have hm := (if_pos c2).symm.trans hm
      refine lv_iconst (v := (-1)) hx hb dX8_here_61 (by decide) ?_
      exact W.iret (v := (-1)) hx hb hr (fun T hT hW => ⟨⟨(-1), s1, rfl, ⟨congrArg Prod.fst (Option.some.inj hm), congrArg Prod.snd (Option.some.inj hm)⟩, by rw [posW, hT]; exact hP⟩, hS.F hT⟩) hS.2.2 dX8_here_62
    · have hm := (if_neg c2).symm.trans hm
      refine lv_aload_n hx hb dX8_here_49 rfl (lv_at hl 0 rfl) ?_
      refine gfX8_tape hx hb h_X8 hown hK hP l_f9 dX8_here_50 ?_
      refine lv_aload_n hx hb dX8_here_53 rfl (lv_at hl 0 rfl) ?_
      refine gfX8_at hx hb h_X8 hown hK hP l_f145 dX8_here_54 ?_
      obtain ⟨hi, hm⟩ := ok_I hm
      refine ldM_1 hx hb hK hP hi dX8_here_57 ?_
      refine lv_goto (tgt := 62) hx hb dX8_here_58 (by decide) ?_
      exact W.iret (v := s1.1 13 (s1.1 3 0).toNatClampNeg) hx hb hr (fun T hT hW => ⟨⟨s1.1 13 (s1.1 3 0).toNatClampNeg, s1, rfl, ⟨congrArg Prod.fst (Option.some.inj hm), congrArg Prod.snd (Option.some.inj hm)⟩, by rw [posW, hT]; exact hP⟩, hS.F hT⟩) hS.2.2 dX8_here_62
  have L_0 : ∀ (n : Nat) (s3 : St) (H : Heap) (locs : List Loc) (ls : Array Slot), va_P D vwCl (wM y a s3) H → va_S (AC a 30 s.heap.size) s.heap H locs → lv_has ls 1 [(0, .ref (a 0))] → mX8_here_0 n s3 = some (r, τ) → W p l e (headSpec zX8_here ({ frames := 0, cells := 0, slots := 0, locals := 0 })).room s m ([.ref (a 0)] : List Value).toArray below meth c H locs 0 0 (MQ below (va_Qi (fun r' u => r' = r ∧ u = τ) (posW (wM y a) D) (AC a 30 s.heap.size)) ([.ref (a 0)] : List Value).toArray s 0 0 (AC a 30 s.heap.size)) (F0 m 0 ls []) := by
    intro n
    induction n with
    | zero =>
      intro s3 H locs ls hP hS hl hm
      exact absurd (show (none : Option (Int32 × St)) = some (r, τ) from hm) (by intro h; cases h)
    | succ n ih0 =>
      obtain ⟨kh0, ekh0⟩ : ∃ z, z = mX8_here_0 n := ⟨_, rfl⟩
      have ih0 : ∀ (s3 : St) (H : Heap) (locs : List Loc) (ls : Array Slot), va_P D vwCl (wM y a s3) H → va_S (AC a 30 s.heap.size) s.heap H locs → lv_has ls 1 [(0, .ref (a 0))] → kh0 s3 = some (r, τ) → W p l e (headSpec zX8_here ({ frames := 0, cells := 0, slots := 0, locals := 0 })).room s m ([.ref (a 0)] : List Value).toArray below meth c H locs 0 0 (MQ below (va_Qi (fun r' u => r' = r ∧ u = τ) (posW (wM y a) D) (AC a 30 s.heap.size)) ([.ref (a 0)] : List Value).toArray s 0 0 (AC a 30 s.heap.size)) (F0 m 0 ls []) := by rw [ekh0]; exact ih0
      intro s3 H locs ls hP hS hl hm
      have hm : bX8_here_0 (mX8_here_0 n) s3 = some (r, τ) := hm
      rw [← ekh0] at hm
      unfold bX8_here_0 at hm
      refine lv_aload_n hx hb dX8_here_0 rfl (lv_at hl 0 rfl) ?_
      refine gfX8_at hx hb h_X8 hown hK hP l_f145 dX8_here_1 ?_
      refine lv_aload_n hx hb dX8_here_4 rfl (lv_at hl 0 rfl) ?_
      refine gfX8_length hx hb h_X8 hown hK hP l_f116 dX8_here_5 ?_
      refine lv_icmp_ge (tgt := 38) hx hb dX8_here_8 (by decide) (fun c4 => ?_) (fun c4 => ?_)
      · have hm := (if_pos c4).symm.trans hm
        exact L_38 s3 _ _ _ hP hS (lv_sub hl [0] rfl) hm
      · have hm := (if_neg c4).symm.trans hm
        refine lv_aload_n hx hb dX8_here_11 rfl (lv_at hl 0 rfl) ?_
        refine gfX8_tape hx hb h_X8 hown hK hP l_f9 dX8_here_12 ?_
        refine lv_aload_n hx hb dX8_here_15 rfl (lv_at hl 0 rfl) ?_
        refine gfX8_at hx hb h_X8 hown hK hP l_f145 dX8_here_16 ?_
        obtain ⟨hi, hm⟩ := ok_I hm
        refine ldM_1 hx hb hK hP hi dX8_here_19 ?_
        refine lv_bipush (v := 32) hx hb dX8_here_20 (by decide) ?_
        refine lv_icmp_ne (tgt := 38) hx hb dX8_here_22 (by decide) (fun c5 => ?_) (fun c5 => ?_)
        · have hm := (if_neg c5).symm.trans hm
          exact L_38 s3 _ _ _ hP hS (lv_sub hl [0] rfl) hm
        · have hm := (if_pos c5).symm.trans hm
          refine lv_aload_n hx hb dX8_here_25 rfl (lv_at hl 0 rfl) ?_
          refine lv_dup hx hb dX8_here_26 rfl ?_
          refine gfX8_at hx hb h_X8 hown hK hP l_f145 dX8_here_27 ?_
          refine lv_iconst (v := 1) hx hb dX8_here_30 (by decide) ?_
          refine lv_iadd hx hb dX8_here_31 ?_
          refine pfX8_at hx hb h_X8 hown hK hP hI AC_in hS l_f145 dX8_here_32 (fun H locs hP hS => ?_)
          generalize es6 : su s3 3 (fun _ => (s3.1 3 0) + 1) = s6 at hP
          have hm := bnd_x es6.symm hm
          refine lv_goto (tgt := 0) hx hb dX8_here_35 (by decide) ?_
          exact ih0 s6 _ _ _ hP hS (lv_sub hl [0] rfl) hm
  unfold mX8_here at hm
  exact L_0 NF σ _ _ _ hP hS (lv_sub hl [0] rfl) hm
theorem eX8_takes : yX8_takes.cls = RX8 ∧ yX8_takes.cls ≠ "java/lang/invoke/MethodHandle" ∧ yX8_takes.cls ≠ "java/lang/invoke/VarHandle" ∧ (parseMethodDescriptor yX8_takes.desc).map (fun d => d.parameters.length) = some 1 := by decide +kernel
def mX8_takes (σ : St) (p1 : Int32) : Option (Int32 × St) :=
(mX8_here σ).bind fun ⟨r1, s3⟩ =>
if r1 = p1 then (
bnd (su s3 3 (fun _ => (s3.1 3 0) + 1)) fun s5 =>
some (1, s5))
else (
some (0, s3))
set_option maxHeartbeats 4000000 in
set_option maxRecDepth 100000 in
theorem kX8_takes (l : Launch) (D : va_G) (y : Nat → ClassId) (a t : Nat → Nat) (hI : AI a 30) (sz : Nat) (σ τ : St) (p1 : Int32) (r : Int32) (hm : mX8_takes σ p1 = some (r, τ)) : Met l yX8_takes zX8_takes { frames := 1, cells := 0, slots := 0, locals := 20 } (va_Pc [.ref (a 0), .int p1] (preW (wM y a) a 30 D y t σ sz)) (va_Qi (fun r' u => r' = r ∧ u = τ) (posW (wM y a) D) (AC a 30 sz)) 0 0 (AC a 30 sz) := by
  refine Met.ofW (cc := cX8_takes) (maxL := 2) (ret := (some .boolean)) (by decide) rfl ?_
  intro p e s m args below meth c s₁ B hml hv
  obtain ⟨rfl, hsz, hP, hK, hF⟩ := hv
  have hx := B.exec
  have hb := B.bytes
  have hr := B.returns
  have hts := atoms_spec (ws := zX8_takes) B.pre
  have hown : s.vm.findClass RX8 = some m.cls := findClass_of_methodNamed B.named
  have hlocks := B.notSynchronized
  subst hsz
  have l_f145 := hts _ (List.mem_cons_of_mem _ aF_X8_145)
  have h_X8 : ∀ w ∈ wsX80, w.before _ s = true := fun w hw => hts w (List.mem_cons_of_mem _ (hwX8 w hw))
  have hS : va_S (AC a 30 s.heap.size) s.heap s.heap [] := va_S.rf
  have hl := lv_entry ([.ref (a 0), .int p1]) (n := 2) (Nat.le_of_ble_eq_true rfl)
  rw [lg_entry_eq]
  generalize (lg_sl ([.ref (a 0), .int p1]) ++ List.replicate (2 - (lg_sl ([.ref (a 0), .int p1])).length) Slot.unset).toArray = ls at hl ⊢
  have hl : lv_has ls 2 [(0, .ref (a 0)), (1, .int p1)] := hl
  unfold mX8_takes at hm
  refine lv_aload_n hx hb dX8_takes_0 rfl (lv_at hl 0 rfl) ?_
  obtain ⟨⟨r1, s3⟩, h2, hm⟩ := ok_bind hm
  refine calV_i (As := []) (rest := []) ⟨hx, hb, hml, hown, hts⟩ (kX8_here l D y a t hI _ σ s3 r1 h2) (cwV 0 hts (gAV aM_X8_148 aI_X8_here aS_X8_here aN_X8 aC_X8_here) rfl rfl rfl eX8_here ⟨Nat.le_of_ble_eq_true rfl, Nat.le_of_ble_eq_true rfl⟩) (preV_W (ci := 8) (q := (RX8, TX8, 42)) hK hP hF hS rfl (wM_0 y a σ)) rfl hl.1 rfl (Nat.le_of_ble_eq_true rfl) dX8_takes_1 ⟨Nat.zero_le _, Nat.zero_le _⟩ hS (AC_le hS.1) (fun H locs hP hS hk1 => ?_)
  refine lv_iload_n hx hb dX8_takes_4 rfl (lv_at hl 1 rfl) ?_
  refine lv_icmp_eq (tgt := 10) hx hb dX8_takes_5 (by decide) (fun c4 => ?_) (fun c4 => ?_)
  · have hm := (if_pos c4).symm.trans hm
    refine lv_aload_n hx hb dX8_takes_10 rfl (lv_at hl 0 rfl) ?_
    refine lv_dup hx hb dX8_takes_11 rfl ?_
    refine gfX8_at hx hb h_X8 hown hK hP l_f145 dX8_takes_12 ?_
    refine lv_iconst (v := 1) hx hb dX8_takes_15 (by decide) ?_
    refine lv_iadd hx hb dX8_takes_16 ?_
    refine pfX8_at hx hb h_X8 hown hK hP hI AC_in hS l_f145 dX8_takes_17 (fun H locs hP hS => ?_)
    generalize es5 : su s3 3 (fun _ => (s3.1 3 0) + 1) = s5 at hP
    have hm := bnd_x es5.symm hm
    refine lv_iconst (v := 1) hx hb dX8_takes_20 (by decide) ?_
    exact W.zret (v := 1) hx hb hr rfl (fun T hT hW => ⟨⟨1, s5, rfl, ⟨congrArg Prod.fst (Option.some.inj hm), congrArg Prod.snd (Option.some.inj hm)⟩, by rw [posW, hT]; exact hP⟩, hS.F hT⟩) hS.2.2 dX8_takes_21
  · have hm := (if_neg c4).symm.trans hm
    refine lv_iconst (v := 0) hx hb dX8_takes_8 (by decide) ?_
    exact W.zret (v := 0) hx hb hr rfl (fun T hT hW => ⟨⟨0, s3, rfl, ⟨congrArg Prod.fst (Option.some.inj hm), congrArg Prod.snd (Option.some.inj hm)⟩, by rw [posW, hT]; exact hP⟩, hS.F hT⟩) hS.2.2 dX8_takes_9
theorem eX8_form : yX8_form.cls = RX8 ∧ yX8_form.cls ≠ "java/lang/invoke/MethodHandle" ∧ yX8_form.cls ≠ "java/lang/invoke/VarHandle" ∧ (parseMethodDescriptor yX8_form.desc).map (fun d => d.parameters.length) = some 1 := by decide +kernel
theorem eX8_plain : yX8_plain.cls = RX8 ∧ yX8_plain.cls ≠ "java/lang/invoke/MethodHandle" ∧ yX8_plain.cls ≠ "java/lang/invoke/VarHandle" ∧ (parseMethodDescriptor yX8_plain.desc).map (fun d => d.parameters.length) = some 1 := by decide +kernel
theorem eX8_row : yX8_row.cls = RX8 ∧ yX8_row.cls ≠ "java/lang/invoke/MethodHandle" ∧ yX8_row.cls ≠ "java/lang/invoke/VarHandle" ∧ (parseMethodDescriptor yX8_row.desc).map (fun d => d.parameters.length) = some 2 := by decide +kernel
def bX8_form (f_X8_form : St → Int32 → Option (Int32 × St)) (f_X8_plain : St → Int32 → Option (Int32 × St)) (f_X8_row : St → Int32 → Int32 → Option (Int32 × St)) (σ : St) (p1 : Int32) : Option (Int32 × St) :=
(mX8_here σ).bind fun ⟨r1, s3⟩ =>
if p1 ≤ 10 then (
(f_X8_row s3 p1 4).bind fun ⟨r5, s7⟩ =>
if r5 = (-1) then (
some (r5, s7))
else (
(mX8_takes s7 62).bind fun ⟨r9, s11⟩ =>
if r9 = 0 then (
some (r5, s11))
else (
(f_X8_form s11 (p1 + 1)).bind fun ⟨r13, s15⟩ =>
if r13 = (-1) then (
some ((-1), s15))
else (
(mX8_part s15 5 r5 r13).bind fun ⟨r17, s19⟩ =>
some (r17, s19)))))
else (
some ((-1), s3))
def bX8_plain (f_X8_form : St → Int32 → Option (Int32 × St)) (f_X8_plain : St → Int32 → Option (Int32 × St)) (f_X8_row : St → Int32 → Int32 → Option (Int32 × St)) (σ : St) (p1 : Int32) : Option (Int32 × St) :=
(mX8_here σ).bind fun ⟨r1, s3⟩ =>
if p1 ≤ 10 then (
(mX8_isIn s3 r1 97 104).bind fun r5 =>
if r5 = 0 then (
(mX8_takes s3 35).bind fun ⟨r8, s10⟩ =>
if r8 = 0 then (
(mX8_takes s10 45).bind fun ⟨r12, s14⟩ =>
if r12 = 0 then (
(mX8_takes s14 40).bind fun ⟨r16, s18⟩ =>
if r16 = 0 then (
some ((-1), s18))
else (
(f_X8_form s18 (p1 + 1)).bind fun ⟨r20, s22⟩ =>
if r20 = (-1) then (
some ((-1), s22))
else (
(mX8_takes s22 41).bind fun ⟨r24, s26⟩ =>
if r24 = 0 then (
some ((-1), s26))
else (
some (r20, s26)))))
else (
(f_X8_plain s14 (p1 + 1)).bind fun ⟨r28, s30⟩ =>
if r28 = (-1) then (
some ((-1), s30))
else (
(mX8_part s30 2 r28 (-1)).bind fun ⟨r32, s34⟩ =>
some (r32, s34))))
else (
(mX8_part s10 1 (-1) (-1)).bind fun ⟨r35, s37⟩ =>
some (r35, s37)))
else (
bnd (su s3 3 (fun _ => (s3.1 3 0) + 1)) fun s38 =>
(mX8_part s38 0 (r1 - 97) (-1)).bind fun ⟨r39, s41⟩ =>
some (r39, s41)))
else (
some ((-1), s3))
def mX8_row_83 (f_X8_form : St → Int32 → Option (Int32 × St)) (f_X8_plain : St → Int32 → Option (Int32 × St)) (f_X8_row : St → Int32 → Int32 → Option (Int32 × St)) (kh20 : St → Int32 → Int32 → Int32 → Option (Int32 × St)) (s4 : St) (v1 : Int32) (v2 : Int32) (v3 : Int32) : Option (Int32 × St) :=
kh20 s4 v1 v2 v3
def mX8_row_63 (f_X8_form : St → Int32 → Option (Int32 × St)) (f_X8_plain : St → Int32 → Option (Int32 × St)) (f_X8_row : St → Int32 → Int32 → Option (Int32 × St)) (kh20 : St → Int32 → Int32 → Int32 → Option (Int32 × St)) (s9 : St) (v5 : Int32) (v6 : Int32) (v7 : Int32) (v8 : Int32) : Option (Int32 × St) :=
if v8 = (-1) then (
mX8_row_83 f_X8_form f_X8_plain f_X8_row kh20 s9 v5 v6 (-1))
else (
(mX8_part s9 v6 v7 v8).bind fun ⟨r11, s13⟩ =>
mX8_row_83 f_X8_form f_X8_plain f_X8_row kh20 s13 v5 v6 r11)
def mX8_row_38 (f_X8_form : St → Int32 → Option (Int32 × St)) (f_X8_plain : St → Int32 → Option (Int32 × St)) (f_X8_row : St → Int32 → Int32 → Option (Int32 × St)) (kh20 : St → Int32 → Int32 → Int32 → Option (Int32 × St)) (s18 : St) (v14 : Int32) (v15 : Int32) (v16 : Int32) (v17 : Int32) : Option (Int32 × St) :=
(mX8_takes s18 v17).bind fun ⟨r19, s21⟩ =>
if r19 = 0 then (
some (v16, s21))
else (
if v15 = 4 then (
(f_X8_row s21 v14 3).bind fun ⟨r27, s29⟩ =>
mX8_row_63 f_X8_form f_X8_plain f_X8_row kh20 s29 v14 v15 v16 r27)
else (
(f_X8_plain s21 v14).bind fun ⟨r24, s26⟩ =>
mX8_row_63 f_X8_form f_X8_plain f_X8_row kh20 s26 v14 v15 v16 r24))
def bX8_row_20 (f_X8_form : St → Int32 → Option (Int32 × St)) (f_X8_plain : St → Int32 → Option (Int32 × St)) (f_X8_row : St → Int32 → Int32 → Option (Int32 × St)) (kh20 : St → Int32 → Int32 → Int32 → Option (Int32 × St)) (s33 : St) (v30 : Int32) (v31 : Int32) (v32 : Int32) : Option (Int32 × St) :=
if v32 = (-1) then (
some (v32, s33))
else (
if v31 = 4 then (
mX8_row_38 f_X8_form f_X8_plain f_X8_row kh20 s33 v30 v31 v32 124)
else (
mX8_row_38 f_X8_form f_X8_plain f_X8_row kh20 s33 v30 v31 v32 38))
abbrev mX8_row_20 (f_X8_form : St → Int32 → Option (Int32 × St)) (f_X8_plain : St → Int32 → Option (Int32 × St)) (f_X8_row : St → Int32 → Int32 → Option (Int32 × St)) (n : Nat) : St → Int32 → Int32 → Int32 → Option (Int32 × St) := fx (fun _ _ _ _ => none) (bX8_row_20 f_X8_form f_X8_plain f_X8_row) n
def mX8_row_19 (f_X8_form : St → Int32 → Option (Int32 × St)) (f_X8_plain : St → Int32 → Option (Int32 × St)) (f_X8_row : St → Int32 → Int32 → Option (Int32 × St)) (s39 : St) (v36 : Int32) (v37 : Int32) (v38 : Int32) : Option (Int32 × St) :=
mX8_row_20 f_X8_form f_X8_plain f_X8_row NF s39 v36 v37 v38
def bX8_row (f_X8_form : St → Int32 → Option (Int32 × St)) (f_X8_plain : St → Int32 → Option (Int32 × St)) (f_X8_row : St → Int32 → Int32 → Option (Int32 × St)) (σ : St) (p1 : Int32) (p2 : Int32) : Option (Int32 × St) :=
if p2 = 4 then (
(f_X8_row σ p1 3).bind fun ⟨r44, s46⟩ =>
mX8_row_19 f_X8_form f_X8_plain f_X8_row s46 p1 p2 r44)
else (
(f_X8_plain σ p1).bind fun ⟨r41, s43⟩ =>
mX8_row_19 f_X8_form f_X8_plain f_X8_row s43 p1 p2 r41)
def gX8_form (d : Nat) : (St → Int32 → Option (Int32 × St)) × (St → Int32 → Option (Int32 × St)) × (St → Int32 → Int32 → Option (Int32 × St)) := fx ((fun _ _ => none), (fun _ _ => none), (fun _ _ _ => none)) (fun F => (bX8_form (F.1) (F.2.1) (F.2.2), bX8_plain (F.1) (F.2.1) (F.2.2), bX8_row (F.1) (F.2.1) (F.2.2))) d
abbrev mX8_form : St → Int32 → Option (Int32 × St) := (gX8_form 56).1
abbrev mX8_plain : St → Int32 → Option (Int32 × St) := (gX8_form 56).2.1
abbrev mX8_row : St → Int32 → Int32 → Option (Int32 × St) := (gX8_form 56).2.2
set_option maxHeartbeats 4000000 in
set_option maxRecDepth 100000 in
theorem oX8_form (l : Launch) (D : va_G) (y : Nat → ClassId) (a t : Nat → Nat) (hI : AI a 30) (fr lo : Nat) (hfr : 2 ≤ fr) (hlo : 28 ≤ lo) (f_X8_form : St → Int32 → Option (Int32 × St)) (f_X8_plain : St → Int32 → Option (Int32 × St)) (f_X8_row : St → Int32 → Int32 → Option (Int32 × St)) (c_X8_form : ∀ (sz : Nat) (σ τ : St) (p1 : Int32) (r : Int32), f_X8_form σ p1 = some (r, τ) → Met l yX8_form zX8_form { frames := fr, cells := 0, slots := 0, locals := lo } (va_Pc [.ref (a 0), .int p1] (preW (wM y a) a 30 D y t σ sz)) (va_Qi (fun r' u => r' = r ∧ u = τ) (posW (wM y a) D) (AC a 30 sz)) 0 0 (AC a 30 sz)) (c_X8_plain : ∀ (sz : Nat) (σ τ : St) (p1 : Int32) (r : Int32), f_X8_plain σ p1 = some (r, τ) → Met l yX8_plain zX8_plain { frames := fr, cells := 0, slots := 0, locals := lo } (va_Pc [.ref (a 0), .int p1] (preW (wM y a) a 30 D y t σ sz)) (va_Qi (fun r' u => r' = r ∧ u = τ) (posW (wM y a) D) (AC a 30 sz)) 0 0 (AC a 30 sz)) (c_X8_row : ∀ (sz : Nat) (σ τ : St) (p1 : Int32) (p2 : Int32) (r : Int32), f_X8_row σ p1 p2 = some (r, τ) → Met l yX8_row zX8_row { frames := fr, cells := 0, slots := 0, locals := lo } (va_Pc [.ref (a 0), .int p1, .int p2] (preW (wM y a) a 30 D y t σ sz)) (va_Qi (fun r' u => r' = r ∧ u = τ) (posW (wM y a) D) (AC a 30 sz)) 0 0 (AC a 30 sz)) (sz : Nat) (σ τ : St) (p1 : Int32) (r : Int32) (hm : bX8_form f_X8_form f_X8_plain f_X8_row σ p1 = some (r, τ)) : Met l yX8_form zX8_form { frames := fr + 1, cells := 0, slots := 0, locals := lo + 24 } (va_Pc [.ref (a 0), .int p1] (preW (wM y a) a 30 D y t σ sz)) (va_Qi (fun r' u => r' = r ∧ u = τ) (posW (wM y a) D) (AC a 30 sz)) 0 0 (AC a 30 sz) := by
  refine Met.ofW (cc := cX8_form) (maxL := 4) (ret := (some .int)) (by decide) rfl ?_
  intro p e s m args below meth c s₁ B hml hv
  obtain ⟨rfl, hsz, hP, hK, hF⟩ := hv
  have hx := B.exec
  have hb := B.bytes
  have hr := B.returns
  have hts := atoms_spec (ws := zX8_form) B.pre
  have hown : s.vm.findClass RX8 = some m.cls := findClass_of_methodNamed B.named
  have hlocks := B.notSynchronized
  subst hsz
  have hS : va_S (AC a 30 s.heap.size) s.heap s.heap [] := va_S.rf
  have hl := lv_entry ([.ref (a 0), .int p1]) (n := 4) (Nat.le_of_ble_eq_true rfl)
  rw [lg_entry_eq]
  generalize (lg_sl ([.ref (a 0), .int p1]) ++ List.replicate (4 - (lg_sl ([.ref (a 0), .int p1])).length) Slot.unset).toArray = ls at hl ⊢
  have hl : lv_has ls 4 [(0, .ref (a 0)), (1, .int p1)] := hl
  unfold bX8_form at hm
  refine lv_aload_n hx hb dX8_form_0 rfl (lv_at hl 0 rfl) ?_
  obtain ⟨⟨r1, s3⟩, h2, hm⟩ := ok_bind hm
  refine calV_i (As := []) (rest := []) ⟨hx, hb, hml, hown, hts⟩ (kX8_here l D y a t hI _ σ s3 r1 h2) (cwV 0 hts (gAV aM_X8_148 aI_X8_here aS_X8_here aN_X8 aC_X8_here) rfl rfl rfl eX8_here ⟨by show 0 + 1 ≤ fr + 1; omega, by show 8 + (1 + 11) + 0 ≤ lo + 24; omega⟩) (preV_W (ci := 8) (q := (RX8, TX8, 42)) hK hP hF hS rfl (wM_0 y a σ)) rfl hl.1 rfl (Nat.le_of_ble_eq_true rfl) dX8_form_1 ⟨Nat.zero_le _, Nat.zero_le _⟩ hS (AC_le hS.1) (fun H locs hP hS hk1 => ?_)
  refine lv_pop hx hb dX8_form_4 rfl ?_
  refine lv_iload_n hx hb dX8_form_5 rfl (lv_at hl 1 rfl) ?_
  refine lv_bipush (v := 10) hx hb dX8_form_6 (by decide) ?_
  refine lv_icmp_le (tgt := 13) hx hb dX8_form_8 (by decide) (fun c4 => ?_) (fun c4 => ?_)
  · have hm := (if_pos c4).symm.trans hm
    refine lv_aload_n hx hb dX8_form_13 rfl (lv_at hl 0 rfl) ?_
    refine lv_iload_n hx hb dX8_form_14 rfl (lv_at hl 1 rfl) ?_
    refine lv_iconst (v := 4) hx hb dX8_form_15 (by decide) ?_
    obtain ⟨⟨r5, s7⟩, h6, hm⟩ := ok_bind hm
    refine calV_i (As := [.int p1, .int 4]) (rest := []) ⟨hx, hb, hml, hown, hts⟩ (c_X8_row _ s3 s7 p1 4 r5 h6) (cwV 2 hts (gAV aM_X8_152 aI_X8_row aS_X8_row aN_X8 aC_X8_row) rfl rfl rfl eX8_row ⟨Nat.le_refl _, by show 8 + (5 + 11) + lo ≤ lo + 24; omega⟩) (preV_W (ci := 8) (q := (RX8, TX8, 42)) hK hP hF hS rfl (wM_0 y a s3)) rfl hl.1 rfl (Nat.le_of_ble_eq_true rfl) dX8_form_16 ⟨Nat.zero_le _, Nat.zero_le _⟩ hS (AC_le hS.1) (fun H locs hP hS hk1 => ?_)
    refine lv_istore_n (lv' := [(2, .int r5), (0, .ref (a 0)), (1, .int p1)]) hx hb dX8_form_19 rfl hl (by decide) rfl (fun ls hl => ?_)
    refine lv_iload_n hx hb dX8_form_20 rfl (lv_at hl 0 rfl) ?_
    refine lv_iconst (v := (-1)) hx hb dX8_form_21 (by decide) ?_
    refine lv_icmp_eq (tgt := 34) hx hb dX8_form_22 (by decide) (fun c8 => ?_) (fun c8 => ?_)
    · have hm := (if_pos c8).symm.trans hm
      refine lv_iload_n hx hb dX8_form_34 rfl (lv_at hl 0 rfl) ?_
      exact W.iret (v := r5) hx hb hr (fun T hT hW => ⟨⟨r5, s7, rfl, ⟨congrArg Prod.fst (Option.some.inj hm), congrArg Prod.snd (Option.some.inj hm)⟩, by rw [posW, hT]; exact hP⟩, hS.F hT⟩) hS.2.2 dX8_form_35
    · have hm := (if_neg c8).symm.trans hm
      refine lv_aload_n hx hb dX8_form_25 rfl (lv_at hl 1 rfl) ?_
      refine lv_bipush (v := 62) hx hb dX8_form_26 (by decide) ?_
      obtain ⟨⟨r9, s11⟩, h10, hm⟩ := ok_bind hm
      refine calV_i (As := [.int 62]) (rest := []) ⟨hx, hb, hml, hown, hts⟩ (kX8_takes l D y a t hI _ s7 s11 62 r9 h10) (cwV 1 hts (gAV aM_X8_155 aI_X8_takes aS_X8_takes aN_X8 aC_X8_takes) rfl rfl rfl eX8_takes ⟨by show 1 + 1 ≤ fr + 1; omega, by show 8 + (2 + 11) + 20 ≤ lo + 24; omega⟩) (preV_W (ci := 8) (q := (RX8, TX8, 42)) hK hP hF hS rfl (wM_0 y a s7)) rfl hl.1 rfl (Nat.le_of_ble_eq_true rfl) dX8_form_28 ⟨Nat.zero_le _, Nat.zero_le _⟩ hS (AC_le hS.1) (fun H locs hP hS hk1 => ?_)
      refine lv_if_ne (tgt := 36) hx hb dX8_form_31 (by decide) (fun c12 => ?_) (fun c12 => ?_)
      · have hm := (if_neg c12).symm.trans hm
        refine lv_aload_n hx hb dX8_form_36 rfl (lv_at hl 1 rfl) ?_
        refine lv_iload_n hx hb dX8_form_37 rfl (lv_at hl 2 rfl) ?_
        refine lv_iconst (v := 1) hx hb dX8_form_38 (by decide) ?_
        refine lv_iadd hx hb dX8_form_39 ?_
        obtain ⟨⟨r13, s15⟩, h14, hm⟩ := ok_bind hm
        refine calV_i (As := [.int (p1 + 1)]) (rest := []) ⟨hx, hb, hml, hown, hts⟩ (c_X8_form _ s11 s15 (p1 + 1) r13 h14) (cwV 1 hts (gAV aM_X8_159 aI_X8_form aS_X8_form aN_X8 aC_X8_form) rfl rfl rfl eX8_form ⟨Nat.le_refl _, by show 8 + (4 + 11) + lo ≤ lo + 24; omega⟩) (preV_W (ci := 8) (q := (RX8, TX8, 42)) hK hP hF hS rfl (wM_0 y a s11)) rfl hl.1 rfl (Nat.le_of_ble_eq_true rfl) dX8_form_40 ⟨Nat.zero_le _, Nat.zero_le _⟩ hS (AC_le hS.1) (fun H locs hP hS hk1 => ?_)
        refine lv_istore_n (lv' := [(3, .int r13), (2, .int r5), (0, .ref (a 0)), (1, .int p1)]) hx hb dX8_form_43 rfl hl (by decide) rfl (fun ls hl => ?_)
        refine lv_iload_n hx hb dX8_form_44 rfl (lv_at hl 0 rfl) ?_
        refine lv_iconst (v := (-1)) hx hb dX8_form_45 (by decide) ?_
        refine lv_icmp_ne (tgt := 53) hx hb dX8_form_46 (by decide) (fun c16 => ?_) (fun c16 => ?_)
        · have hm := (if_neg c16).symm.trans hm
          refine lv_aload_n hx hb dX8_form_53 rfl (lv_at hl 2 rfl) ?_
          refine lv_iconst (v := 5) hx hb dX8_form_54 (by decide) ?_
          refine lv_iload_n hx hb dX8_form_55 rfl (lv_at hl 1 rfl) ?_
          refine lv_iload_n hx hb dX8_form_56 rfl (lv_at hl 0 rfl) ?_
          obtain ⟨⟨r17, s19⟩, h18, hm⟩ := ok_bind hm
          refine calV_i (As := [.int 5, .int r5, .int r13]) (rest := []) ⟨hx, hb, hml, hown, hts⟩ (kX8_part l D y a t hI _ s15 s19 5 r5 r13 r17 h18) (cwV 3 hts (gAV aM_X8_162 aI_X8_part aS_X8_part aN_X8 aC_X8_part) rfl rfl rfl eX8_part ⟨by show 0 + 1 ≤ fr + 1; omega, by show 8 + (4 + 11) + 0 ≤ lo + 24; omega⟩) (preV_W (ci := 8) (q := (RX8, TX8, 42)) hK hP hF hS rfl (wM_0 y a s15)) rfl hl.1 rfl (Nat.le_of_ble_eq_true rfl) dX8_form_57 ⟨Nat.zero_le _, Nat.zero_le _⟩ hS (AC_le hS.1) (fun H locs hP hS hk1 => ?_)
          exact W.iret (v := r17) hx hb hr (fun T hT hW => ⟨⟨r17, s19, rfl, ⟨congrArg Prod.fst (Option.some.inj hm), congrArg Prod.snd (Option.some.inj hm)⟩, by rw [posW, hT]; exact hP⟩, hS.F hT⟩) hS.2.2 dX8_form_60
        · have hm := (if_pos c16).symm.trans hm
          refine lv_iconst (v := (-1)) hx hb dX8_form_49 (by decide) ?_
          refine lv_goto (tgt := 60) hx hb dX8_form_50 (by decide) ?_
          exact W.iret (v := (-1)) hx hb hr (fun T hT hW => ⟨⟨(-1), s15, rfl, ⟨congrArg Prod.fst (Option.some.inj hm), congrArg Prod.snd (Option.some.inj hm)⟩, by rw [posW, hT]; exact hP⟩, hS.F hT⟩) hS.2.2 dX8_form_60
      · have hm := (if_pos c12).symm.trans hm
        refine lv_iload_n hx hb dX8_form_34 rfl (lv_at hl 0 rfl) ?_
        exact W.iret (v := r5) hx hb hr (fun T hT hW => ⟨⟨r5, s11, rfl, ⟨congrArg Prod.fst (Option.some.inj hm), congrArg Prod.snd (Option.some.inj hm)⟩, by rw [posW, hT]; exact hP⟩, hS.F hT⟩) hS.2.2 dX8_form_35
  · have hm := (if_neg c4).symm.trans hm
    refine lv_iconst (v := (-1)) hx hb dX8_form_11 (by decide) ?_
    exact W.iret (v := (-1)) hx hb hr (fun T hT hW => ⟨⟨(-1), s3, rfl, ⟨congrArg Prod.fst (Option.some.inj hm), congrArg Prod.snd (Option.some.inj hm)⟩, by rw [posW, hT]; exact hP⟩, hS.F hT⟩) hS.2.2 dX8_form_12
set_option maxHeartbeats 4000000 in
set_option maxRecDepth 100000 in
theorem oX8_plain (l : Launch) (D : va_G) (y : Nat → ClassId) (a t : Nat → Nat) (hI : AI a 30) (fr lo : Nat) (hfr : 2 ≤ fr) (hlo : 28 ≤ lo) (f_X8_form : St → Int32 → Option (Int32 × St)) (f_X8_plain : St → Int32 → Option (Int32 × St)) (f_X8_row : St → Int32 → Int32 → Option (Int32 × St)) (c_X8_form : ∀ (sz : Nat) (σ τ : St) (p1 : Int32) (r : Int32), f_X8_form σ p1 = some (r, τ) → Met l yX8_form zX8_form { frames := fr, cells := 0, slots := 0, locals := lo } (va_Pc [.ref (a 0), .int p1] (preW (wM y a) a 30 D y t σ sz)) (va_Qi (fun r' u => r' = r ∧ u = τ) (posW (wM y a) D) (AC a 30 sz)) 0 0 (AC a 30 sz)) (c_X8_plain : ∀ (sz : Nat) (σ τ : St) (p1 : Int32) (r : Int32), f_X8_plain σ p1 = some (r, τ) → Met l yX8_plain zX8_plain { frames := fr, cells := 0, slots := 0, locals := lo } (va_Pc [.ref (a 0), .int p1] (preW (wM y a) a 30 D y t σ sz)) (va_Qi (fun r' u => r' = r ∧ u = τ) (posW (wM y a) D) (AC a 30 sz)) 0 0 (AC a 30 sz)) (c_X8_row : ∀ (sz : Nat) (σ τ : St) (p1 : Int32) (p2 : Int32) (r : Int32), f_X8_row σ p1 p2 = some (r, τ) → Met l yX8_row zX8_row { frames := fr, cells := 0, slots := 0, locals := lo } (va_Pc [.ref (a 0), .int p1, .int p2] (preW (wM y a) a 30 D y t σ sz)) (va_Qi (fun r' u => r' = r ∧ u = τ) (posW (wM y a) D) (AC a 30 sz)) 0 0 (AC a 30 sz)) (sz : Nat) (σ τ : St) (p1 : Int32) (r : Int32) (hm : bX8_plain f_X8_form f_X8_plain f_X8_row σ p1 = some (r, τ)) : Met l yX8_plain zX8_plain { frames := fr + 1, cells := 0, slots := 0, locals := lo + 24 } (va_Pc [.ref (a 0), .int p1] (preW (wM y a) a 30 D y t σ sz)) (va_Qi (fun r' u => r' = r ∧ u = τ) (posW (wM y a) D) (AC a 30 sz)) 0 0 (AC a 30 sz) := by
  refine Met.ofW (cc := cX8_plain) (maxL := 4) (ret := (some .int)) (by decide) rfl ?_
  intro p e s m args below meth c s₁ B hml hv
  obtain ⟨rfl, hsz, hP, hK, hF⟩ := hv
  have hx := B.exec
  have hb := B.bytes
  have hr := B.returns
  have hts := atoms_spec (ws := zX8_plain) B.pre
  have hown : s.vm.findClass RX8 = some m.cls := findClass_of_methodNamed B.named
  have hlocks := B.notSynchronized
  subst hsz
  have l_f145 := hts _ (List.mem_cons_of_mem _ aF_X8_145)
  have h_X8 : ∀ w ∈ wsX80, w.before _ s = true := fun w hw => hts w (List.mem_cons_of_mem _ (hwX8 w hw))
  have hS : va_S (AC a 30 s.heap.size) s.heap s.heap [] := va_S.rf
  have hl := lv_entry ([.ref (a 0), .int p1]) (n := 4) (Nat.le_of_ble_eq_true rfl)
  rw [lg_entry_eq]
  generalize (lg_sl ([.ref (a 0), .int p1]) ++ List.replicate (4 - (lg_sl ([.ref (a 0), .int p1])).length) Slot.unset).toArray = ls at hl ⊢
  have hl : lv_has ls 4 [(0, .ref (a 0)), (1, .int p1)] := hl
  unfold bX8_plain at hm
  refine lv_aload_n hx hb dX8_plain_0 rfl (lv_at hl 0 rfl) ?_
  obtain ⟨⟨r1, s3⟩, h2, hm⟩ := ok_bind hm
  refine calV_i (As := []) (rest := []) ⟨hx, hb, hml, hown, hts⟩ (kX8_here l D y a t hI _ σ s3 r1 h2) (cwV 0 hts (gAV aM_X8_148 aI_X8_here aS_X8_here aN_X8 aC_X8_here) rfl rfl rfl eX8_here ⟨by show 0 + 1 ≤ fr + 1; omega, by show 8 + (1 + 11) + 0 ≤ lo + 24; omega⟩) (preV_W (ci := 8) (q := (RX8, TX8, 42)) hK hP hF hS rfl (wM_0 y a σ)) rfl hl.1 rfl (Nat.le_of_ble_eq_true rfl) dX8_plain_1 ⟨Nat.zero_le _, Nat.zero_le _⟩ hS (AC_le hS.1) (fun H locs hP hS hk1 => ?_)
  refine lv_istore_n (lv' := [(2, .int r1), (0, .ref (a 0)), (1, .int p1)]) hx hb dX8_plain_4 rfl hl (by decide) rfl (fun ls hl => ?_)
  refine lv_iload_n hx hb dX8_plain_5 rfl (lv_at hl 2 rfl) ?_
  refine lv_bipush (v := 10) hx hb dX8_plain_6 (by decide) ?_
  refine lv_icmp_le (tgt := 13) hx hb dX8_plain_8 (by decide) (fun c4 => ?_) (fun c4 => ?_)
  · have hm := (if_pos c4).symm.trans hm
    refine lv_iload_n hx hb dX8_plain_13 rfl (lv_at hl 0 rfl) ?_
    refine lv_bipush (v := 97) hx hb dX8_plain_14 (by decide) ?_
    refine lv_bipush (v := 104) hx hb dX8_plain_16 (by decide) ?_
    obtain ⟨r5, h6, hm⟩ := ok_bind hm
    refine calS_i (As := [.int r1, .int 97, .int 104]) (rest := []) ⟨hx, hb, hml, hown, hts⟩ (kX8_isIn l D y a t hI _ s3 r1 97 104 r5 h6) (va_cwS 3 hts (gAS aM_X8_112 aT_X8_isIn aN_X8 aC_X8_isIn) rfl rfl rfl eX8_isIn ⟨by show 0 + 1 ≤ fr + 1; omega, by show 8 + (3 + 11) + 0 ≤ lo + 24; omega⟩) (preS_W hK hP hF hS) rfl hl.1 rfl (Nat.le_of_ble_eq_true rfl) dX8_plain_18 ⟨Nat.zero_le _, Nat.zero_le _⟩ hS (AC_le hS.1) (fun H locs hP hS hk1 => ?_)
    refine lv_if_eq (tgt := 45) hx hb dX8_plain_21 (by decide) (fun c7 => ?_) (fun c7 => ?_)
    · have hm := (if_pos c7).symm.trans hm
      refine lv_aload_n hx hb dX8_plain_45 rfl (lv_at hl 1 rfl) ?_
      refine lv_bipush (v := 35) hx hb dX8_plain_46 (by decide) ?_
      obtain ⟨⟨r8, s10⟩, h9, hm⟩ := ok_bind hm
      refine calV_i (As := [.int 35]) (rest := []) ⟨hx, hb, hml, hown, hts⟩ (kX8_takes l D y a t hI _ s3 s10 35 r8 h9) (cwV 1 hts (gAV aM_X8_155 aI_X8_takes aS_X8_takes aN_X8 aC_X8_takes) rfl rfl rfl eX8_takes ⟨by show 1 + 1 ≤ fr + 1; omega, by show 8 + (2 + 11) + 20 ≤ lo + 24; omega⟩) (preV_W (ci := 8) (q := (RX8, TX8, 42)) hK hP hF hS rfl (wM_0 y a s3)) rfl hl.1 rfl (Nat.le_of_ble_eq_true rfl) dX8_plain_48 ⟨Nat.zero_le _, Nat.zero_le _⟩ hS (AC_le hS.1) (fun H locs hP hS hk1 => ?_)
      refine lv_if_eq (tgt := 62) hx hb dX8_plain_51 (by decide) (fun c11 => ?_) (fun c11 => ?_)
      · have hm := (if_pos c11).symm.trans hm
        refine lv_aload_n hx hb dX8_plain_62 rfl (lv_at hl 1 rfl) ?_
        refine lv_bipush (v := 45) hx hb dX8_plain_63 (by decide) ?_
        obtain ⟨⟨r12, s14⟩, h13, hm⟩ := ok_bind hm
        refine calV_i (As := [.int 45]) (rest := []) ⟨hx, hb, hml, hown, hts⟩ (kX8_takes l D y a t hI _ s10 s14 45 r12 h13) (cwV 1 hts (gAV aM_X8_155 aI_X8_takes aS_X8_takes aN_X8 aC_X8_takes) rfl rfl rfl eX8_takes ⟨by show 1 + 1 ≤ fr + 1; omega, by show 8 + (2 + 11) + 20 ≤ lo + 24; omega⟩) (preV_W (ci := 8) (q := (RX8, TX8, 42)) hK hP hF hS rfl (wM_0 y a s10)) rfl hl.1 rfl (Nat.le_of_ble_eq_true rfl) dX8_plain_65 ⟨Nat.zero_le _, Nat.zero_le _⟩ hS (AC_le hS.1) (fun H locs hP hS hk1 => ?_)
        refine lv_if_eq (tgt := 96) hx hb dX8_plain_68 (by decide) (fun c15 => ?_) (fun c15 => ?_)
        · have hm := (if_pos c15).symm.trans hm
          refine lv_aload_n hx hb dX8_plain_96 rfl (lv_at hl 1 rfl) ?_
          refine lv_bipush (v := 40) hx hb dX8_plain_97 (by decide) ?_
          obtain ⟨⟨r16, s18⟩, h17, hm⟩ := ok_bind hm
          refine calV_i (As := [.int 40]) (rest := []) ⟨hx, hb, hml, hown, hts⟩ (kX8_takes l D y a t hI _ s14 s18 40 r16 h17) (cwV 1 hts (gAV aM_X8_155 aI_X8_takes aS_X8_takes aN_X8 aC_X8_takes) rfl rfl rfl eX8_takes ⟨by show 1 + 1 ≤ fr + 1; omega, by show 8 + (2 + 11) + 20 ≤ lo + 24; omega⟩) (preV_W (ci := 8) (q := (RX8, TX8, 42)) hK hP hF hS rfl (wM_0 y a s14)) rfl hl.1 rfl (Nat.le_of_ble_eq_true rfl) dX8_plain_99 ⟨Nat.zero_le _, Nat.zero_le _⟩ hS (AC_le hS.1) (fun H locs hP hS hk1 => ?_)
          refine lv_if_ne (tgt := 107) hx hb dX8_plain_102 (by decide) (fun c19 => ?_) (fun c19 => ?_)
          · have hm := (if_neg c19).symm.trans hm
            refine lv_aload_n hx hb dX8_plain_107 rfl (lv_at hl 1 rfl) ?_
            refine lv_iload_n hx hb dX8_plain_108 rfl (lv_at hl 2 rfl) ?_
            refine lv_iconst (v := 1) hx hb dX8_plain_109 (by decide) ?_
            refine lv_iadd hx hb dX8_plain_110 ?_
            obtain ⟨⟨r20, s22⟩, h21, hm⟩ := ok_bind hm
            refine calV_i (As := [.int (p1 + 1)]) (rest := []) ⟨hx, hb, hml, hown, hts⟩ (c_X8_form _ s18 s22 (p1 + 1) r20 h21) (cwV 1 hts (gAV aM_X8_159 aI_X8_form aS_X8_form aN_X8 aC_X8_form) rfl rfl rfl eX8_form ⟨Nat.le_refl _, by show 8 + (4 + 11) + lo ≤ lo + 24; omega⟩) (preV_W (ci := 8) (q := (RX8, TX8, 42)) hK hP hF hS rfl (wM_0 y a s18)) rfl hl.1 rfl (Nat.le_of_ble_eq_true rfl) dX8_plain_111 ⟨Nat.zero_le _, Nat.zero_le _⟩ hS (AC_le hS.1) (fun H locs hP hS hk1 => ?_)
            refine lv_istore_n (lv' := [(3, .int r20), (2, .int r1), (0, .ref (a 0)), (1, .int p1)]) hx hb dX8_plain_114 rfl hl (by decide) rfl (fun ls hl => ?_)
            refine lv_iload_n hx hb dX8_plain_115 rfl (lv_at hl 0 rfl) ?_
            refine lv_iconst (v := (-1)) hx hb dX8_plain_116 (by decide) ?_
            refine lv_icmp_eq (tgt := 133) hx hb dX8_plain_117 (by decide) (fun c23 => ?_) (fun c23 => ?_)
            · have hm := (if_pos c23).symm.trans hm
              refine lv_iconst (v := (-1)) hx hb dX8_plain_133 (by decide) ?_
              exact W.iret (v := (-1)) hx hb hr (fun T hT hW => ⟨⟨(-1), s22, rfl, ⟨congrArg Prod.fst (Option.some.inj hm), congrArg Prod.snd (Option.some.inj hm)⟩, by rw [posW, hT]; exact hP⟩, hS.F hT⟩) hS.2.2 dX8_plain_134
            · have hm := (if_neg c23).symm.trans hm
              refine lv_aload_n hx hb dX8_plain_120 rfl (lv_at hl 2 rfl) ?_
              refine lv_bipush (v := 41) hx hb dX8_plain_121 (by decide) ?_
              obtain ⟨⟨r24, s26⟩, h25, hm⟩ := ok_bind hm
              refine calV_i (As := [.int 41]) (rest := []) ⟨hx, hb, hml, hown, hts⟩ (kX8_takes l D y a t hI _ s22 s26 41 r24 h25) (cwV 1 hts (gAV aM_X8_155 aI_X8_takes aS_X8_takes aN_X8 aC_X8_takes) rfl rfl rfl eX8_takes ⟨by show 1 + 1 ≤ fr + 1; omega, by show 8 + (2 + 11) + 20 ≤ lo + 24; omega⟩) (preV_W (ci := 8) (q := (RX8, TX8, 42)) hK hP hF hS rfl (wM_0 y a s22)) rfl hl.1 rfl (Nat.le_of_ble_eq_true rfl) dX8_plain_123 ⟨Nat.zero_le _, Nat.zero_le _⟩ hS (AC_le hS.1) (fun H locs hP hS hk1 => ?_)
              refine lv_if_eq (tgt := 133) hx hb dX8_plain_126 (by decide) (fun c27 => ?_) (fun c27 => ?_)
              · have hm := (if_pos c27).symm.trans hm
                refine lv_iconst (v := (-1)) hx hb dX8_plain_133 (by decide) ?_
                exact W.iret (v := (-1)) hx hb hr (fun T hT hW => ⟨⟨(-1), s26, rfl, ⟨congrArg Prod.fst (Option.some.inj hm), congrArg Prod.snd (Option.some.inj hm)⟩, by rw [posW, hT]; exact hP⟩, hS.F hT⟩) hS.2.2 dX8_plain_134
              · have hm := (if_neg c27).symm.trans hm
                refine lv_iload_n hx hb dX8_plain_129 rfl (lv_at hl 0 rfl) ?_
                refine lv_goto (tgt := 134) hx hb dX8_plain_130 (by decide) ?_
                exact W.iret (v := r20) hx hb hr (fun T hT hW => ⟨⟨r20, s26, rfl, ⟨congrArg Prod.fst (Option.some.inj hm), congrArg Prod.snd (Option.some.inj hm)⟩, by rw [posW, hT]; exact hP⟩, hS.F hT⟩) hS.2.2 dX8_plain_134
          · have hm := (if_pos c19).symm.trans hm
            refine lv_iconst (v := (-1)) hx hb dX8_plain_105 (by decide) ?_
            exact W.iret (v := (-1)) hx hb hr (fun T hT hW => ⟨⟨(-1), s18, rfl, ⟨congrArg Prod.fst (Option.some.inj hm), congrArg Prod.snd (Option.some.inj hm)⟩, by rw [posW, hT]; exact hP⟩, hS.F hT⟩) hS.2.2 dX8_plain_106
        · have hm := (if_neg c15).symm.trans hm
          refine lv_aload_n hx hb dX8_plain_71 rfl (lv_at hl 1 rfl) ?_
          refine lv_iload_n hx hb dX8_plain_72 rfl (lv_at hl 2 rfl) ?_
          refine lv_iconst (v := 1) hx hb dX8_plain_73 (by decide) ?_
          refine lv_iadd hx hb dX8_plain_74 ?_
          obtain ⟨⟨r28, s30⟩, h29, hm⟩ := ok_bind hm
          refine calV_i (As := [.int (p1 + 1)]) (rest := []) ⟨hx, hb, hml, hown, hts⟩ (c_X8_plain _ s14 s30 (p1 + 1) r28 h29) (cwV 1 hts (gAV aM_X8_165 aI_X8_plain aS_X8_plain aN_X8 aC_X8_plain) rfl rfl rfl eX8_plain ⟨Nat.le_refl _, by show 8 + (4 + 11) + lo ≤ lo + 24; omega⟩) (preV_W (ci := 8) (q := (RX8, TX8, 42)) hK hP hF hS rfl (wM_0 y a s14)) rfl hl.1 rfl (Nat.le_of_ble_eq_true rfl) dX8_plain_75 ⟨Nat.zero_le _, Nat.zero_le _⟩ hS (AC_le hS.1) (fun H locs hP hS hk1 => ?_)
          refine lv_istore_n (lv' := [(3, .int r28), (2, .int r1), (0, .ref (a 0)), (1, .int p1)]) hx hb dX8_plain_78 rfl hl (by decide) rfl (fun ls hl => ?_)
          refine lv_iload_n hx hb dX8_plain_79 rfl (lv_at hl 0 rfl) ?_
          refine lv_iconst (v := (-1)) hx hb dX8_plain_80 (by decide) ?_
          refine lv_icmp_ne (tgt := 88) hx hb dX8_plain_81 (by decide) (fun c31 => ?_) (fun c31 => ?_)
          · have hm := (if_neg c31).symm.trans hm
            refine lv_aload_n hx hb dX8_plain_88 rfl (lv_at hl 2 rfl) ?_
            refine lv_iconst (v := 2) hx hb dX8_plain_89 (by decide) ?_
            refine lv_iload_n hx hb dX8_plain_90 rfl (lv_at hl 0 rfl) ?_
            refine lv_iconst (v := (-1)) hx hb dX8_plain_91 (by decide) ?_
            obtain ⟨⟨r32, s34⟩, h33, hm⟩ := ok_bind hm
            refine calV_i (As := [.int 2, .int r28, .int (-1)]) (rest := []) ⟨hx, hb, hml, hown, hts⟩ (kX8_part l D y a t hI _ s30 s34 2 r28 (-1) r32 h33) (cwV 3 hts (gAV aM_X8_162 aI_X8_part aS_X8_part aN_X8 aC_X8_part) rfl rfl rfl eX8_part ⟨by show 0 + 1 ≤ fr + 1; omega, by show 8 + (4 + 11) + 0 ≤ lo + 24; omega⟩) (preV_W (ci := 8) (q := (RX8, TX8, 42)) hK hP hF hS rfl (wM_0 y a s30)) rfl hl.1 rfl (Nat.le_of_ble_eq_true rfl) dX8_plain_92 ⟨Nat.zero_le _, Nat.zero_le _⟩ hS (AC_le hS.1) (fun H locs hP hS hk1 => ?_)
            exact W.iret (v := r32) hx hb hr (fun T hT hW => ⟨⟨r32, s34, rfl, ⟨congrArg Prod.fst (Option.some.inj hm), congrArg Prod.snd (Option.some.inj hm)⟩, by rw [posW, hT]; exact hP⟩, hS.F hT⟩) hS.2.2 dX8_plain_95
          · have hm := (if_pos c31).symm.trans hm
            refine lv_iconst (v := (-1)) hx hb dX8_plain_84 (by decide) ?_
            refine lv_goto (tgt := 95) hx hb dX8_plain_85 (by decide) ?_
            exact W.iret (v := (-1)) hx hb hr (fun T hT hW => ⟨⟨(-1), s30, rfl, ⟨congrArg Prod.fst (Option.some.inj hm), congrArg Prod.snd (Option.some.inj hm)⟩, by rw [posW, hT]; exact hP⟩, hS.F hT⟩) hS.2.2 dX8_plain_95
      · have hm := (if_neg c11).symm.trans hm
        refine lv_aload_n hx hb dX8_plain_54 rfl (lv_at hl 1 rfl) ?_
        refine lv_iconst (v := 1) hx hb dX8_plain_55 (by decide) ?_
        refine lv_iconst (v := (-1)) hx hb dX8_plain_56 (by decide) ?_
        refine lv_iconst (v := (-1)) hx hb dX8_plain_57 (by decide) ?_
        obtain ⟨⟨r35, s37⟩, h36, hm⟩ := ok_bind hm
        refine calV_i (As := [.int 1, .int (-1), .int (-1)]) (rest := []) ⟨hx, hb, hml, hown, hts⟩ (kX8_part l D y a t hI _ s10 s37 1 (-1) (-1) r35 h36) (cwV 3 hts (gAV aM_X8_162 aI_X8_part aS_X8_part aN_X8 aC_X8_part) rfl rfl rfl eX8_part ⟨by show 0 + 1 ≤ fr + 1; omega, by show 8 + (4 + 11) + 0 ≤ lo + 24; omega⟩) (preV_W (ci := 8) (q := (RX8, TX8, 42)) hK hP hF hS rfl (wM_0 y a s10)) rfl hl.1 rfl (Nat.le_of_ble_eq_true rfl) dX8_plain_58 ⟨Nat.zero_le _, Nat.zero_le _⟩ hS (AC_le hS.1) (fun H locs hP hS hk1 => ?_)
        exact W.iret (v := r35) hx hb hr (fun T hT hW => ⟨⟨r35, s37, rfl, ⟨congrArg Prod.fst (Option.some.inj hm), congrArg Prod.snd (Option.some.inj hm)⟩, by rw [posW, hT]; exact hP⟩, hS.F hT⟩) hS.2.2 dX8_plain_61
    · have hm := (if_neg c7).symm.trans hm
      refine lv_aload_n hx hb dX8_plain_24 rfl (lv_at hl 1 rfl) ?_
      refine lv_dup hx hb dX8_plain_25 rfl ?_
      refine gfX8_at hx hb h_X8 hown hK hP l_f145 dX8_plain_26 ?_
      refine lv_iconst (v := 1) hx hb dX8_plain_29 (by decide) ?_
      refine lv_iadd hx hb dX8_plain_30 ?_
      refine pfX8_at hx hb h_X8 hown hK hP hI AC_in hS l_f145 dX8_plain_31 (fun H locs hP hS => ?_)
      generalize es38 : su s3 3 (fun _ => (s3.1 3 0) + 1) = s38 at hP
      have hm := bnd_x es38.symm hm
      refine lv_aload_n hx hb dX8_plain_34 rfl (lv_at hl 1 rfl) ?_
      refine lv_iconst (v := 0) hx hb dX8_plain_35 (by decide) ?_
      refine lv_iload_n hx hb dX8_plain_36 rfl (lv_at hl 0 rfl) ?_
      refine lv_bipush (v := 97) hx hb dX8_plain_37 (by decide) ?_
      refine lv_isub hx hb dX8_plain_39 ?_
      refine lv_iconst (v := (-1)) hx hb dX8_plain_40 (by decide) ?_
      obtain ⟨⟨r39, s41⟩, h40, hm⟩ := ok_bind hm
      refine calV_i (As := [.int 0, .int (r1 - 97), .int (-1)]) (rest := []) ⟨hx, hb, hml, hown, hts⟩ (kX8_part l D y a t hI _ s38 s41 0 (r1 - 97) (-1) r39 h40) (cwV 3 hts (gAV aM_X8_162 aI_X8_part aS_X8_part aN_X8 aC_X8_part) rfl rfl rfl eX8_part ⟨by show 0 + 1 ≤ fr + 1; omega, by show 8 + (4 + 11) + 0 ≤ lo + 24; omega⟩) (preV_W (ci := 8) (q := (RX8, TX8, 42)) hK hP hF hS rfl (wM_0 y a s38)) rfl hl.1 rfl (Nat.le_of_ble_eq_true rfl) dX8_plain_41 ⟨Nat.zero_le _, Nat.zero_le _⟩ hS (AC_le hS.1) (fun H locs hP hS hk1 => ?_)
      exact W.iret (v := r39) hx hb hr (fun T hT hW => ⟨⟨r39, s41, rfl, ⟨congrArg Prod.fst (Option.some.inj hm), congrArg Prod.snd (Option.some.inj hm)⟩, by rw [posW, hT]; exact hP⟩, hS.F hT⟩) hS.2.2 dX8_plain_44
  · have hm := (if_neg c4).symm.trans hm
    refine lv_iconst (v := (-1)) hx hb dX8_plain_11 (by decide) ?_
    exact W.iret (v := (-1)) hx hb hr (fun T hT hW => ⟨⟨(-1), s3, rfl, ⟨congrArg Prod.fst (Option.some.inj hm), congrArg Prod.snd (Option.some.inj hm)⟩, by rw [posW, hT]; exact hP⟩, hS.F hT⟩) hS.2.2 dX8_plain_12
set_option maxHeartbeats 4000000 in
set_option maxRecDepth 100000 in
theorem oX8_row (l : Launch) (D : va_G) (y : Nat → ClassId) (a t : Nat → Nat) (hI : AI a 30) (fr lo : Nat) (hfr : 2 ≤ fr) (hlo : 28 ≤ lo) (f_X8_form : St → Int32 → Option (Int32 × St)) (f_X8_plain : St → Int32 → Option (Int32 × St)) (f_X8_row : St → Int32 → Int32 → Option (Int32 × St)) (c_X8_form : ∀ (sz : Nat) (σ τ : St) (p1 : Int32) (r : Int32), f_X8_form σ p1 = some (r, τ) → Met l yX8_form zX8_form { frames := fr, cells := 0, slots := 0, locals := lo } (va_Pc [.ref (a 0), .int p1] (preW (wM y a) a 30 D y t σ sz)) (va_Qi (fun r' u => r' = r ∧ u = τ) (posW (wM y a) D) (AC a 30 sz)) 0 0 (AC a 30 sz)) (c_X8_plain : ∀ (sz : Nat) (σ τ : St) (p1 : Int32) (r : Int32), f_X8_plain σ p1 = some (r, τ) → Met l yX8_plain zX8_plain { frames := fr, cells := 0, slots := 0, locals := lo } (va_Pc [.ref (a 0), .int p1] (preW (wM y a) a 30 D y t σ sz)) (va_Qi (fun r' u => r' = r ∧ u = τ) (posW (wM y a) D) (AC a 30 sz)) 0 0 (AC a 30 sz)) (c_X8_row : ∀ (sz : Nat) (σ τ : St) (p1 : Int32) (p2 : Int32) (r : Int32), f_X8_row σ p1 p2 = some (r, τ) → Met l yX8_row zX8_row { frames := fr, cells := 0, slots := 0, locals := lo } (va_Pc [.ref (a 0), .int p1, .int p2] (preW (wM y a) a 30 D y t σ sz)) (va_Qi (fun r' u => r' = r ∧ u = τ) (posW (wM y a) D) (AC a 30 sz)) 0 0 (AC a 30 sz)) (sz : Nat) (σ τ : St) (p1 : Int32) (p2 : Int32) (r : Int32) (hm : bX8_row f_X8_form f_X8_plain f_X8_row σ p1 p2 = some (r, τ)) : Met l yX8_row zX8_row { frames := fr + 1, cells := 0, slots := 0, locals := lo + 24 } (va_Pc [.ref (a 0), .int p1, .int p2] (preW (wM y a) a 30 D y t σ sz)) (va_Qi (fun r' u => r' = r ∧ u = τ) (posW (wM y a) D) (AC a 30 sz)) 0 0 (AC a 30 sz) := by
  refine Met.ofW (cc := cX8_row) (maxL := 5) (ret := (some .int)) (by decide) rfl ?_
  intro p e s m args below meth c s₁ B hml hv
  obtain ⟨rfl, hsz, hP, hK, hF⟩ := hv
  have hx := B.exec
  have hb := B.bytes
  have hr := B.returns
  have hts := atoms_spec (ws := zX8_row) B.pre
  have hown : s.vm.findClass RX8 = some m.cls := findClass_of_methodNamed B.named
  have hlocks := B.notSynchronized
  subst hsz
  have hS : va_S (AC a 30 s.heap.size) s.heap s.heap [] := va_S.rf
  have hl := lv_entry ([.ref (a 0), .int p1, .int p2]) (n := 5) (Nat.le_of_ble_eq_true rfl)
  rw [lg_entry_eq]
  generalize (lg_sl ([.ref (a 0), .int p1, .int p2]) ++ List.replicate (5 - (lg_sl ([.ref (a 0), .int p1, .int p2])).length) Slot.unset).toArray = ls at hl ⊢
  have hl : lv_has ls 5 [(0, .ref (a 0)), (1, .int p1), (2, .int p2)] := hl
  have L_20 : ∀ (n : Nat) (s33 : St) (v30 : Int32) (v31 : Int32) (v32 : Int32) (H : Heap) (locs : List Loc) (ls : Array Slot), va_P D vwCl (wM y a s33) H → va_S (AC a 30 s.heap.size) s.heap H locs → lv_has ls 5 [(0, .ref (a 0)), (1, .int v30), (2, .int v31), (3, .int v32)] → mX8_row_20 f_X8_form f_X8_plain f_X8_row n s33 v30 v31 v32 = some (r, τ) → W p l e (headSpec zX8_row ({ frames := fr + 1, cells := 0, slots := 0, locals := lo + 24 })).room s m ([.ref (a 0), .int p1, .int p2] : List Value).toArray below meth c H locs 0 0 (MQ below (va_Qi (fun r' u => r' = r ∧ u = τ) (posW (wM y a) D) (AC a 30 s.heap.size)) ([.ref (a 0), .int p1, .int p2] : List Value).toArray s 0 0 (AC a 30 s.heap.size)) (F0 m 20 ls []) := by
    intro n
    induction n with
    | zero =>
      intro s33 v30 v31 v32 H locs ls hP hS hl hm
      exact absurd (show (none : Option (Int32 × St)) = some (r, τ) from hm) (by intro h; cases h)
    | succ n ih20 =>
      obtain ⟨kh20, ekh20⟩ : ∃ z, z = mX8_row_20 f_X8_form f_X8_plain f_X8_row n := ⟨_, rfl⟩
      have ih20 : ∀ (s33 : St) (v30 : Int32) (v31 : Int32) (v32 : Int32) (H : Heap) (locs : List Loc) (ls : Array Slot), va_P D vwCl (wM y a s33) H → va_S (AC a 30 s.heap.size) s.heap H locs → lv_has ls 5 [(0, .ref (a 0)), (1, .int v30), (2, .int v31), (3, .int v32)] → kh20 s33 v30 v31 v32 = some (r, τ) → W p l e (headSpec zX8_row ({ frames := fr + 1, cells := 0, slots := 0, locals := lo + 24 })).room s m ([.ref (a 0), .int p1, .int p2] : List Value).toArray below meth c H locs 0 0 (MQ below (va_Qi (fun r' u => r' = r ∧ u = τ) (posW (wM y a) D) (AC a 30 s.heap.size)) ([.ref (a 0), .int p1, .int p2] : List Value).toArray s 0 0 (AC a 30 s.heap.size)) (F0 m 20 ls []) := by rw [ekh20]; exact ih20
      have L_83 : ∀ (s4 : St) (v1 : Int32) (v2 : Int32) (v3 : Int32) (H : Heap) (locs : List Loc) (ls : Array Slot), va_P D vwCl (wM y a s4) H → va_S (AC a 30 s.heap.size) s.heap H locs → lv_has ls 5 [(0, .ref (a 0)), (1, .int v1), (2, .int v2)] → mX8_row_83 f_X8_form f_X8_plain f_X8_row kh20 s4 v1 v2 v3 = some (r, τ) → W p l e (headSpec zX8_row ({ frames := fr + 1, cells := 0, slots := 0, locals := lo + 24 })).room s m ([.ref (a 0), .int p1, .int p2] : List Value).toArray below meth c H locs 0 0 (MQ below (va_Qi (fun r' u => r' = r ∧ u = τ) (posW (wM y a) D) (AC a 30 s.heap.size)) ([.ref (a 0), .int p1, .int p2] : List Value).toArray s 0 0 (AC a 30 s.heap.size)) (F0 m 83 ls [.int v3]) := by
        intro s4 v1 v2 v3 H locs ls hP hS hl hm
        unfold mX8_row_83 at hm
        refine lv_istore_n (lv' := [(3, .int v3), (0, .ref (a 0)), (1, .int v1), (2, .int v2)]) hx hb dX8_row_83 rfl hl (by decide) rfl (fun ls hl => ?_)
        refine lv_goto (tgt := 20) hx hb dX8_row_84 (by decide) ?_
        exact ih20 s4 v1 v2 v3 _ _ _ hP hS (lv_sub hl [1, 2, 3, 0] rfl) hm
      have L_63 : ∀ (s9 : St) (v5 : Int32) (v6 : Int32) (v7 : Int32) (v8 : Int32) (H : Heap) (locs : List Loc) (ls : Array Slot), va_P D vwCl (wM y a s9) H → va_S (AC a 30 s.heap.size) s.heap H locs → lv_has ls 5 [(0, .ref (a 0)), (1, .int v5), (2, .int v6), (3, .int v7)] → mX8_row_63 f_X8_form f_X8_plain f_X8_row kh20 s9 v5 v6 v7 v8 = some (r, τ) → W p l e (headSpec zX8_row ({ frames := fr + 1, cells := 0, slots := 0, locals := lo + 24 })).room s m ([.ref (a 0), .int p1, .int p2] : List Value).toArray below meth c H locs 0 0 (MQ below (va_Qi (fun r' u => r' = r ∧ u = τ) (posW (wM y a) D) (AC a 30 s.heap.size)) ([.ref (a 0), .int p1, .int p2] : List Value).toArray s 0 0 (AC a 30 s.heap.size)) (F0 m 63 ls [.int v8]) := by
        intro s9 v5 v6 v7 v8 H locs ls hP hS hl hm
        unfold mX8_row_63 at hm
        refine lv_istore (lv' := [(4, .int v8), (0, .ref (a 0)), (1, .int v5), (2, .int v6), (3, .int v7)]) hx hb dX8_row_63 hl (by decide) rfl (fun ls hl => ?_)
        refine lv_iload hx hb dX8_row_65 (lv_at hl 0 rfl) ?_
        refine lv_iconst (v := (-1)) hx hb dX8_row_67 (by decide) ?_
        refine lv_icmp_ne (tgt := 75) hx hb dX8_row_68 (by decide) (fun c10 => ?_) (fun c10 => ?_)
        · have hm := (if_neg c10).symm.trans hm
          refine lv_aload_n hx hb dX8_row_75 rfl (lv_at hl 1 rfl) ?_
          refine lv_iload_n hx hb dX8_row_76 rfl (lv_at hl 3 rfl) ?_
          refine lv_iload_n hx hb dX8_row_77 rfl (lv_at hl 4 rfl) ?_
          refine lv_iload hx hb dX8_row_78 (lv_at hl 0 rfl) ?_
          obtain ⟨⟨r11, s13⟩, h12, hm⟩ := ok_bind hm
          refine calV_i (As := [.int v6, .int v7, .int v8]) (rest := []) ⟨hx, hb, hml, hown, hts⟩ (kX8_part l D y a t hI _ s9 s13 v6 v7 v8 r11 h12) (cwV 3 hts (gAV aM_X8_162 aI_X8_part aS_X8_part aN_X8 aC_X8_part) rfl rfl rfl eX8_part ⟨by show 0 + 1 ≤ fr + 1; omega, by show 8 + (4 + 11) + 0 ≤ lo + 24; omega⟩) (preV_W (ci := 8) (q := (RX8, TX8, 42)) hK hP hF hS rfl (wM_0 y a s9)) rfl hl.1 rfl (Nat.le_of_ble_eq_true rfl) dX8_row_80 ⟨Nat.zero_le _, Nat.zero_le _⟩ hS (AC_le hS.1) (fun H locs hP hS hk1 => ?_)
          exact L_83 s13 v5 v6 r11 _ _ _ hP hS (lv_sub hl [1, 2, 3] rfl) hm
        · have hm := (if_pos c10).symm.trans hm
          refine lv_iconst (v := (-1)) hx hb dX8_row_71 (by decide) ?_
          refine lv_goto (tgt := 83) hx hb dX8_row_72 (by decide) ?_
          exact L_83 s9 v5 v6 (-1) _ _ _ hP hS (lv_sub hl [1, 2, 3] rfl) hm
      have L_38 : ∀ (s18 : St) (v14 : Int32) (v15 : Int32) (v16 : Int32) (v17 : Int32) (H : Heap) (locs : List Loc) (ls : Array Slot), va_P D vwCl (wM y a s18) H → va_S (AC a 30 s.heap.size) s.heap H locs → lv_has ls 5 [(0, .ref (a 0)), (1, .int v14), (2, .int v15), (3, .int v16)] → mX8_row_38 f_X8_form f_X8_plain f_X8_row kh20 s18 v14 v15 v16 v17 = some (r, τ) → W p l e (headSpec zX8_row ({ frames := fr + 1, cells := 0, slots := 0, locals := lo + 24 })).room s m ([.ref (a 0), .int p1, .int p2] : List Value).toArray below meth c H locs 0 0 (MQ below (va_Qi (fun r' u => r' = r ∧ u = τ) (posW (wM y a) D) (AC a 30 s.heap.size)) ([.ref (a 0), .int p1, .int p2] : List Value).toArray s 0 0 (AC a 30 s.heap.size)) (F0 m 38 ls [.int v17, .ref (a 0)]) := by
        intro s18 v14 v15 v16 v17 H locs ls hP hS hl hm
        unfold mX8_row_38 at hm
        obtain ⟨⟨r19, s21⟩, h20, hm⟩ := ok_bind hm
        refine calV_i (As := [.int v17]) (rest := []) ⟨hx, hb, hml, hown, hts⟩ (kX8_takes l D y a t hI _ s18 s21 v17 r19 h20) (cwV 1 hts (gAV aM_X8_155 aI_X8_takes aS_X8_takes aN_X8 aC_X8_takes) rfl rfl rfl eX8_takes ⟨by show 1 + 1 ≤ fr + 1; omega, by show 8 + (2 + 11) + 20 ≤ lo + 24; omega⟩) (preV_W (ci := 8) (q := (RX8, TX8, 42)) hK hP hF hS rfl (wM_0 y a s18)) rfl hl.1 rfl (Nat.le_of_ble_eq_true rfl) dX8_row_38 ⟨Nat.zero_le _, Nat.zero_le _⟩ hS (AC_le hS.1) (fun H locs hP hS hk1 => ?_)
        refine lv_if_eq (tgt := 87) hx hb dX8_row_41 (by decide) (fun c22 => ?_) (fun c22 => ?_)
        · have hm := (if_pos c22).symm.trans hm
          refine lv_iload_n hx hb dX8_row_87 rfl (lv_at hl 3 rfl) ?_
          exact W.iret (v := v16) hx hb hr (fun T hT hW => ⟨⟨v16, s21, rfl, ⟨congrArg Prod.fst (Option.some.inj hm), congrArg Prod.snd (Option.some.inj hm)⟩, by rw [posW, hT]; exact hP⟩, hS.F hT⟩) hS.2.2 dX8_row_88
        · have hm := (if_neg c22).symm.trans hm
          refine lv_iload_n hx hb dX8_row_44 rfl (lv_at hl 2 rfl) ?_
          refine lv_iconst (v := 4) hx hb dX8_row_45 (by decide) ?_
          refine lv_icmp_ne (tgt := 58) hx hb dX8_row_46 (by decide) (fun c23 => ?_) (fun c23 => ?_)
          · have hm := (if_neg c23).symm.trans hm
            refine lv_aload_n hx hb dX8_row_58 rfl (lv_at hl 0 rfl) ?_
            refine lv_iload_n hx hb dX8_row_59 rfl (lv_at hl 1 rfl) ?_
            obtain ⟨⟨r24, s26⟩, h25, hm⟩ := ok_bind hm
            refine calV_i (As := [.int v14]) (rest := []) ⟨hx, hb, hml, hown, hts⟩ (c_X8_plain _ s21 s26 v14 r24 h25) (cwV 1 hts (gAV aM_X8_165 aI_X8_plain aS_X8_plain aN_X8 aC_X8_plain) rfl rfl rfl eX8_plain ⟨Nat.le_refl _, by show 8 + (4 + 11) + lo ≤ lo + 24; omega⟩) (preV_W (ci := 8) (q := (RX8, TX8, 42)) hK hP hF hS rfl (wM_0 y a s21)) rfl hl.1 rfl (Nat.le_of_ble_eq_true rfl) dX8_row_60 ⟨Nat.zero_le _, Nat.zero_le _⟩ hS (AC_le hS.1) (fun H locs hP hS hk1 => ?_)
            exact L_63 s26 v14 v15 v16 r24 _ _ _ hP hS (lv_sub hl [0, 1, 2, 3] rfl) hm
          · have hm := (if_pos c23).symm.trans hm
            refine lv_aload_n hx hb dX8_row_49 rfl (lv_at hl 0 rfl) ?_
            refine lv_iload_n hx hb dX8_row_50 rfl (lv_at hl 1 rfl) ?_
            refine lv_iconst (v := 3) hx hb dX8_row_51 (by decide) ?_
            obtain ⟨⟨r27, s29⟩, h28, hm⟩ := ok_bind hm
            refine calV_i (As := [.int v14, .int 3]) (rest := []) ⟨hx, hb, hml, hown, hts⟩ (c_X8_row _ s21 s29 v14 3 r27 h28) (cwV 2 hts (gAV aM_X8_152 aI_X8_row aS_X8_row aN_X8 aC_X8_row) rfl rfl rfl eX8_row ⟨Nat.le_refl _, by show 8 + (5 + 11) + lo ≤ lo + 24; omega⟩) (preV_W (ci := 8) (q := (RX8, TX8, 42)) hK hP hF hS rfl (wM_0 y a s21)) rfl hl.1 rfl (Nat.le_of_ble_eq_true rfl) dX8_row_52 ⟨Nat.zero_le _, Nat.zero_le _⟩ hS (AC_le hS.1) (fun H locs hP hS hk1 => ?_)
            refine lv_goto (tgt := 63) hx hb dX8_row_55 (by decide) ?_
            exact L_63 s29 v14 v15 v16 r27 _ _ _ hP hS (lv_sub hl [0, 1, 2, 3] rfl) hm
      intro s33 v30 v31 v32 H locs ls hP hS hl hm
      have hm : bX8_row_20 f_X8_form f_X8_plain f_X8_row (mX8_row_20 f_X8_form f_X8_plain f_X8_row n) s33 v30 v31 v32 = some (r, τ) := hm
      rw [← ekh20] at hm
      unfold bX8_row_20 at hm
      refine lv_iload_n hx hb dX8_row_20 rfl (lv_at hl 3 rfl) ?_
      refine lv_iconst (v := (-1)) hx hb dX8_row_21 (by decide) ?_
      refine lv_icmp_eq (tgt := 87) hx hb dX8_row_22 (by decide) (fun c34 => ?_) (fun c34 => ?_)
      · have hm := (if_pos c34).symm.trans hm
        refine lv_iload_n hx hb dX8_row_87 rfl (lv_at hl 3 rfl) ?_
        exact W.iret (v := v32) hx hb hr (fun T hT hW => ⟨⟨v32, s33, rfl, ⟨congrArg Prod.fst (Option.some.inj hm), congrArg Prod.snd (Option.some.inj hm)⟩, by rw [posW, hT]; exact hP⟩, hS.F hT⟩) hS.2.2 dX8_row_88
      · have hm := (if_neg c34).symm.trans hm
        refine lv_aload_n hx hb dX8_row_25 rfl (lv_at hl 0 rfl) ?_
        refine lv_iload_n hx hb dX8_row_26 rfl (lv_at hl 2 rfl) ?_
        refine lv_iconst (v := 4) hx hb dX8_row_27 (by decide) ?_
        refine lv_icmp_ne (tgt := 36) hx hb dX8_row_28 (by decide) (fun c35 => ?_) (fun c35 => ?_)
        · have hm := (if_neg c35).symm.trans hm
          refine lv_bipush (v := 38) hx hb dX8_row_36 (by decide) ?_
          exact L_38 s33 v30 v31 v32 38 _ _ _ hP hS (lv_sub hl [0, 1, 2, 3] rfl) hm
        · have hm := (if_pos c35).symm.trans hm
          refine lv_bipush (v := 124) hx hb dX8_row_31 (by decide) ?_
          refine lv_goto (tgt := 38) hx hb dX8_row_33 (by decide) ?_
          exact L_38 s33 v30 v31 v32 124 _ _ _ hP hS (lv_sub hl [0, 1, 2, 3] rfl) hm
  have L_19 : ∀ (s39 : St) (v36 : Int32) (v37 : Int32) (v38 : Int32) (H : Heap) (locs : List Loc) (ls : Array Slot), va_P D vwCl (wM y a s39) H → va_S (AC a 30 s.heap.size) s.heap H locs → lv_has ls 5 [(0, .ref (a 0)), (1, .int v36), (2, .int v37)] → mX8_row_19 f_X8_form f_X8_plain f_X8_row s39 v36 v37 v38 = some (r, τ) → W p l e (headSpec zX8_row ({ frames := fr + 1, cells := 0, slots := 0, locals := lo + 24 })).room s m ([.ref (a 0), .int p1, .int p2] : List Value).toArray below meth c H locs 0 0 (MQ below (va_Qi (fun r' u => r' = r ∧ u = τ) (posW (wM y a) D) (AC a 30 s.heap.size)) ([.ref (a 0), .int p1, .int p2] : List Value).toArray s 0 0 (AC a 30 s.heap.size)) (F0 m 19 ls [.int v38]) := by
    intro s39 v36 v37 v38 H locs ls hP hS hl hm
    unfold mX8_row_19 at hm
    refine lv_istore_n (lv' := [(3, .int v38), (0, .ref (a 0)), (1, .int v36), (2, .int v37)]) hx hb dX8_row_19 rfl hl (by decide) rfl (fun ls hl => ?_)
    exact L_20 NF s39 v36 v37 v38 _ _ _ hP hS (lv_sub hl [1, 2, 3, 0] rfl) hm
  unfold bX8_row at hm
  refine lv_iload_n hx hb dX8_row_0 rfl (lv_at hl 2 rfl) ?_
  refine lv_iconst (v := 4) hx hb dX8_row_1 (by decide) ?_
  refine lv_icmp_ne (tgt := 14) hx hb dX8_row_2 (by decide) (fun c40 => ?_) (fun c40 => ?_)
  · have hm := (if_neg c40).symm.trans hm
    refine lv_aload_n hx hb dX8_row_14 rfl (lv_at hl 0 rfl) ?_
    refine lv_iload_n hx hb dX8_row_15 rfl (lv_at hl 1 rfl) ?_
    obtain ⟨⟨r41, s43⟩, h42, hm⟩ := ok_bind hm
    refine calV_i (As := [.int p1]) (rest := []) ⟨hx, hb, hml, hown, hts⟩ (c_X8_plain _ σ s43 p1 r41 h42) (cwV 1 hts (gAV aM_X8_165 aI_X8_plain aS_X8_plain aN_X8 aC_X8_plain) rfl rfl rfl eX8_plain ⟨Nat.le_refl _, by show 8 + (4 + 11) + lo ≤ lo + 24; omega⟩) (preV_W (ci := 8) (q := (RX8, TX8, 42)) hK hP hF hS rfl (wM_0 y a σ)) rfl hl.1 rfl (Nat.le_of_ble_eq_true rfl) dX8_row_16 ⟨Nat.zero_le _, Nat.zero_le _⟩ hS (AC_le hS.1) (fun H locs hP hS hk1 => ?_)
    exact L_19 s43 p1 p2 r41 _ _ _ hP hS (lv_sub hl [0, 1, 2] rfl) hm
  · have hm := (if_pos c40).symm.trans hm
    refine lv_aload_n hx hb dX8_row_5 rfl (lv_at hl 0 rfl) ?_
    refine lv_iload_n hx hb dX8_row_6 rfl (lv_at hl 1 rfl) ?_
    refine lv_iconst (v := 3) hx hb dX8_row_7 (by decide) ?_
    obtain ⟨⟨r44, s46⟩, h45, hm⟩ := ok_bind hm
    refine calV_i (As := [.int p1, .int 3]) (rest := []) ⟨hx, hb, hml, hown, hts⟩ (c_X8_row _ σ s46 p1 3 r44 h45) (cwV 2 hts (gAV aM_X8_152 aI_X8_row aS_X8_row aN_X8 aC_X8_row) rfl rfl rfl eX8_row ⟨Nat.le_refl _, by show 8 + (5 + 11) + lo ≤ lo + 24; omega⟩) (preV_W (ci := 8) (q := (RX8, TX8, 42)) hK hP hF hS rfl (wM_0 y a σ)) rfl hl.1 rfl (Nat.le_of_ble_eq_true rfl) dX8_row_8 ⟨Nat.zero_le _, Nat.zero_le _⟩ hS (AC_le hS.1) (fun H locs hP hS hk1 => ?_)
    refine lv_goto (tgt := 19) hx hb dX8_row_11 (by decide) ?_
    exact L_19 s46 p1 p2 r44 _ _ _ hP hS (lv_sub hl [0, 1, 2] rfl) hm
set_option maxHeartbeats 4000000 in
set_option maxRecDepth 100000 in
theorem qX8_form (l : Launch) (D : va_G) (y : Nat → ClassId) (a t : Nat → Nat) (hI : AI a 30) : ∀ d : Nat, (∀ (sz : Nat) (σ τ : St) (p1 : Int32) (r : Int32), ((gX8_form d).1) σ p1 = some (r, τ) → Met l yX8_form zX8_form { frames := 2 + d, cells := 0, slots := 0, locals := 28 + 24 * d } (va_Pc [.ref (a 0), .int p1] (preW (wM y a) a 30 D y t σ sz)) (va_Qi (fun r' u => r' = r ∧ u = τ) (posW (wM y a) D) (AC a 30 sz)) 0 0 (AC a 30 sz)) ∧ (∀ (sz : Nat) (σ τ : St) (p1 : Int32) (r : Int32), ((gX8_form d).2.1) σ p1 = some (r, τ) → Met l yX8_plain zX8_plain { frames := 2 + d, cells := 0, slots := 0, locals := 28 + 24 * d } (va_Pc [.ref (a 0), .int p1] (preW (wM y a) a 30 D y t σ sz)) (va_Qi (fun r' u => r' = r ∧ u = τ) (posW (wM y a) D) (AC a 30 sz)) 0 0 (AC a 30 sz)) ∧ (∀ (sz : Nat) (σ τ : St) (p1 : Int32) (p2 : Int32) (r : Int32), ((gX8_form d).2.2) σ p1 p2 = some (r, τ) → Met l yX8_row zX8_row { frames := 2 + d, cells := 0, slots := 0, locals := 28 + 24 * d } (va_Pc [.ref (a 0), .int p1, .int p2] (preW (wM y a) a 30 D y t σ sz)) (va_Qi (fun r' u => r' = r ∧ u = τ) (posW (wM y a) D) (AC a 30 sz)) 0 0 (AC a 30 sz)) := by
  intro d
  induction d with
  | zero => exact ⟨fun _ _ _ _ _ h => (by cases h), fun _ _ _ _ _ h => (by cases h), fun _ _ _ _ _ _ h => (by cases h)⟩
  | succ d ih =>
    obtain ⟨ih0, ih1, ih2⟩ := ih
    have q0 : ∀ (sz : Nat) (σ τ : St) (p1 : Int32) (r : Int32), ((gX8_form (d + 1)).1) σ p1 = some (r, τ) → Met l yX8_form zX8_form { frames := 2 + (d + 1), cells := 0, slots := 0, locals := 28 + 24 * (d + 1) } (va_Pc [.ref (a 0), .int p1] (preW (wM y a) a 30 D y t σ sz)) (va_Qi (fun r' u => r' = r ∧ u = τ) (posW (wM y a) D) (AC a 30 sz)) 0 0 (AC a 30 sz) := by
      intro sz σ τ p1 r hm
      rw [show 28 + 24 * (d + 1) = 28 + 24 * d + 24 by omega]
      exact oX8_form l D y a t hI (2 + d) (28 + 24 * d) (by omega) (by omega) ((gX8_form d).1) ((gX8_form d).2.1) ((gX8_form d).2.2) ih0 ih1 ih2 sz σ τ p1 r hm
    have q1 : ∀ (sz : Nat) (σ τ : St) (p1 : Int32) (r : Int32), ((gX8_form (d + 1)).2.1) σ p1 = some (r, τ) → Met l yX8_plain zX8_plain { frames := 2 + (d + 1), cells := 0, slots := 0, locals := 28 + 24 * (d + 1) } (va_Pc [.ref (a 0), .int p1] (preW (wM y a) a 30 D y t σ sz)) (va_Qi (fun r' u => r' = r ∧ u = τ) (posW (wM y a) D) (AC a 30 sz)) 0 0 (AC a 30 sz) := by
      intro sz σ τ p1 r hm
      rw [show 28 + 24 * (d + 1) = 28 + 24 * d + 24 by omega]
      exact oX8_plain l D y a t hI (2 + d) (28 + 24 * d) (by omega) (by omega) ((gX8_form d).1) ((gX8_form d).2.1) ((gX8_form d).2.2) ih0 ih1 ih2 sz σ τ p1 r hm
    have q2 : ∀ (sz : Nat) (σ τ : St) (p1 : Int32) (p2 : Int32) (r : Int32), ((gX8_form (d + 1)).2.2) σ p1 p2 = some (r, τ) → Met l yX8_row zX8_row { frames := 2 + (d + 1), cells := 0, slots := 0, locals := 28 + 24 * (d + 1) } (va_Pc [.ref (a 0), .int p1, .int p2] (preW (wM y a) a 30 D y t σ sz)) (va_Qi (fun r' u => r' = r ∧ u = τ) (posW (wM y a) D) (AC a 30 sz)) 0 0 (AC a 30 sz) := by
      intro sz σ τ p1 p2 r hm
      rw [show 28 + 24 * (d + 1) = 28 + 24 * d + 24 by omega]
      exact oX8_row l D y a t hI (2 + d) (28 + 24 * d) (by omega) (by omega) ((gX8_form d).1) ((gX8_form d).2.1) ((gX8_form d).2.2) ih0 ih1 ih2 sz σ τ p1 p2 r hm
    exact ⟨q0, q1, q2⟩
theorem kX8_form (l : Launch) (D : va_G) (y : Nat → ClassId) (a t : Nat → Nat) (hI : AI a 30) : ∀ (sz : Nat) (σ τ : St) (p1 : Int32) (r : Int32), mX8_form σ p1 = some (r, τ) → Met l yX8_form zX8_form { frames := 58, cells := 0, slots := 0, locals := 1372 } (va_Pc [.ref (a 0), .int p1] (preW (wM y a) a 30 D y t σ sz)) (va_Qi (fun r' u => r' = r ∧ u = τ) (posW (wM y a) D) (AC a 30 sz)) 0 0 (AC a 30 sz) := (qX8_form l D y a t hI 56).1
theorem kX8_plain (l : Launch) (D : va_G) (y : Nat → ClassId) (a t : Nat → Nat) (hI : AI a 30) : ∀ (sz : Nat) (σ τ : St) (p1 : Int32) (r : Int32), mX8_plain σ p1 = some (r, τ) → Met l yX8_plain zX8_plain { frames := 58, cells := 0, slots := 0, locals := 1372 } (va_Pc [.ref (a 0), .int p1] (preW (wM y a) a 30 D y t σ sz)) (va_Qi (fun r' u => r' = r ∧ u = τ) (posW (wM y a) D) (AC a 30 sz)) 0 0 (AC a 30 sz) := (qX8_form l D y a t hI 56).2.1
theorem kX8_row (l : Launch) (D : va_G) (y : Nat → ClassId) (a t : Nat → Nat) (hI : AI a 30) : ∀ (sz : Nat) (σ τ : St) (p1 : Int32) (p2 : Int32) (r : Int32), mX8_row σ p1 p2 = some (r, τ) → Met l yX8_row zX8_row { frames := 58, cells := 0, slots := 0, locals := 1372 } (va_Pc [.ref (a 0), .int p1, .int p2] (preW (wM y a) a 30 D y t σ sz)) (va_Qi (fun r' u => r' = r ∧ u = τ) (posW (wM y a) D) (AC a 30 sz)) 0 0 (AC a 30 sz) := (qX8_form l D y a t hI 56).2.2
theorem eX8_read : yX8_read.cls = RX8 ∧ yX8_read.cls ≠ "java/lang/invoke/MethodHandle" ∧ yX8_read.cls ≠ "java/lang/invoke/VarHandle" ∧ (parseMethodDescriptor yX8_read.desc).map (fun d => d.parameters.length) = some 0 := by decide +kernel
def mX8_read_39 (s1 : St) : Option (Int32 × St) :=
bnd (su s1 2 (fun _ => s1.1 3 0)) fun s2 =>
bnd (su s2 1 (fun _ => 0)) fun s3 =>
some ((-1), s3)
def mX8_read_194 (s5 : St) (v4 : Int32) : Option (Int32 × St) :=
bnd (su s5 5 (fun _ => v4)) fun s6 =>
bnd (su s6 2 (fun _ => 0)) fun s7 =>
some ((-2), s7)
def mX8_read_182 (kh73 : St → Int32 → Int32 → Int32 → Option (Int32 × St)) (s15 : St) (v8 : Int32) (v9 : Int32) (v10 : Int32) (v11 : Int32) (v12 : Int32) (v13 : Int32) (v14 : Int32) : Option (Int32 × St) :=
(mX8_known s15 v13 v12 v11).bind fun ⟨r16, s18⟩ =>
bnd (su s18 42 (s15.1 42)) fun s19 =>
chkI v14 400 (
bnd (su s19 42 (upd (s19.1 42) v14.toNatClampNeg r16)) fun s20 =>
chkI v10 400 (
if (s20.1 42 v10.toNatClampNeg) = (-1) then (
mX8_read_194 s20 v9)
else (
bnd (v10 + 1) fun x22 =>
kh73 s20 v8 v9 x22)))
def mX8_read_181 (kh73 : St → Int32 → Int32 → Int32 → Option (Int32 × St)) (s29 : St) (v23 : Int32) (v24 : Int32) (v25 : Int32) (v26 : Int32) (v27 : Int32) (v28 : Int32) : Option (Int32 × St) :=
mX8_read_182 kh73 s29 v23 v24 v25 (-1) v26 v27 v28
def mX8_read_138 (kh73 : St → Int32 → Int32 → Int32 → Option (Int32 × St)) (s35 : St) (v30 : Int32) (v31 : Int32) (v32 : Int32) (v33 : Int32) (v34 : Int32) : Option (Int32 × St) :=
chkI v32 400 (
if v33 = 0 then (
mX8_read_181 kh73 s35 v30 v31 v32 v34 (s35.1 35 v32.toNatClampNeg) v32)
else (
chkI v32 400 (
if (s35.1 37 v32.toNatClampNeg) = (-1) then (
mX8_read_181 kh73 s35 v30 v31 v32 v34 (s35.1 35 v32.toNatClampNeg) v32)
else (
chkI v32 400 (
chkI (s35.1 37 v32.toNatClampNeg) 400 (
mX8_read_182 kh73 s35 v30 v31 v32 (s35.1 42 (s35.1 37 v32.toNatClampNeg).toNatClampNeg) v34 (s35.1 35 v32.toNatClampNeg) v32))))))
def mX8_read_98 (kh73 : St → Int32 → Int32 → Int32 → Option (Int32 × St)) (s42 : St) (v38 : Int32) (v39 : Int32) (v40 : Int32) (v41 : Int32) : Option (Int32 × St) :=
chkI v40 400 (
if (s42.1 35 v40.toNatClampNeg) = 0 then (
chkI v40 400 (
mX8_read_138 kh73 s42 v38 v39 v40 v41 (s42.1 36 v40.toNatClampNeg)))
else (
if v41 = 0 then (
mX8_read_138 kh73 s42 v38 v39 v40 v41 (-1))
else (
chkI v40 400 (
chkI (s42.1 36 v40.toNatClampNeg) 400 (
mX8_read_138 kh73 s42 v38 v39 v40 v41 (s42.1 42 (s42.1 36 v40.toNatClampNeg).toNatClampNeg))))))
def bX8_read_73 (kh73 : St → Int32 → Int32 → Int32 → Option (Int32 × St)) (s48 : St) (v45 : Int32) (v46 : Int32) (v47 : Int32) : Option (Int32 × St) :=
if (s48.1 11 0) ≤ v47 then (
chkI v45 400 (
some (s48.1 42 v45.toNatClampNeg, s48)))
else (
chkI v47 400 (
if (s48.1 35 v47.toNatClampNeg) < 2 then (
mX8_read_98 kh73 s48 v45 v46 v47 0)
else (
mX8_read_98 kh73 s48 v45 v46 v47 1)))
abbrev mX8_read_73 (n : Nat) : St → Int32 → Int32 → Int32 → Option (Int32 × St) := fx (fun _ _ _ _ => none) (bX8_read_73) n
def mX8_read (σ : St) : Option (Int32 × St) :=
bnd (su σ 0 (fun _ => 0)) fun s51 =>
bnd (su s51 2 (fun _ => (-1))) fun s52 =>
bnd (su s52 3 (fun _ => 0)) fun s53 =>
bnd (su s53 11 (fun _ => 0)) fun s54 =>
(mX8_form s54 0).bind fun ⟨r55, s57⟩ =>
if r55 = (-1) then (
mX8_read_39 s57)
else (
(mX8_here s57).bind fun ⟨r59, s61⟩ =>
if r59 = (-1) then (
bnd (su s61 1 (fun _ => 0)) fun s63 =>
bnd (s63.1 5 0) fun x64 =>
bnd (su s63 42 (fun _ => 0)) fun s65 =>
mX8_read_73 NF s65 r55 x64 0)
else (
mX8_read_39 s61))
set_option maxHeartbeats 4000000 in
set_option maxRecDepth 100000 in
theorem kX8_read (l : Launch) (D : va_G) (y : Nat → ClassId) (a t : Nat → Nat) (hI : AI a 30) (sz : Nat) (σ τ : St) (r : Int32) (hm : mX8_read σ = some (r, τ)) : Met l yX8_read zX8_read { frames := 59, cells := 1, slots := 400, locals := 1395 } (va_Pc [.ref (a 0)] (preW (wM y a) a 30 D y t σ sz)) (va_Qi (fun r' u => r' = r ∧ u = τ) (posW (wM y a) D) (AC a 30 sz)) 1 400 (AC a 30 sz) := by
  refine Met.ofW (cc := cX8_read) (maxL := 7) (ret := (some .int)) (by decide) rfl ?_
  intro p e s m args below meth c s₁ B hml hv
  obtain ⟨rfl, hsz, hP, hK, hF⟩ := hv
  have hx := B.exec
  have hb := B.bytes
  have hr := B.returns
  have hts := atoms_spec (ws := zX8_read) B.pre
  have hown : s.vm.findClass RX8 = some m.cls := findClass_of_methodNamed B.named
  have hlocks := B.notSynchronized
  subst hsz
  have l_f106 := hts _ (List.mem_cons_of_mem _ aF_X8_106)
  have l_f13 := hts _ (List.mem_cons_of_mem _ aF_X8_13)
  have l_f145 := hts _ (List.mem_cons_of_mem _ aF_X8_145)
  have l_f142 := hts _ (List.mem_cons_of_mem _ aF_X8_142)
  have l_f116 := hts _ (List.mem_cons_of_mem _ aF_X8_116)
  have l_f109 := hts _ (List.mem_cons_of_mem _ aF_X8_109)
  have l_arr := hts _ (List.mem_cons_of_mem _ aA_int)
  have l_f85 := hts _ (List.mem_cons_of_mem _ aF_X8_85)
  have l_f88 := hts _ (List.mem_cons_of_mem _ aF_X8_88)
  have l_f91 := hts _ (List.mem_cons_of_mem _ aF_X8_91)
  have h_X8 : ∀ w ∈ wsX80, w.before _ s = true := fun w hw => hts w (List.mem_cons_of_mem _ (hwX8 w hw))
  have hS : va_S (AC a 30 s.heap.size) s.heap s.heap [] := va_S.rf
  have hl := lv_entry ([.ref (a 0)]) (n := 7) (Nat.le_of_ble_eq_true rfl)
  rw [lg_entry_eq]
  generalize (lg_sl ([.ref (a 0)]) ++ List.replicate (7 - (lg_sl ([.ref (a 0)])).length) Slot.unset).toArray = ls at hl ⊢
  have hl : lv_has ls 7 [(0, .ref (a 0))] := hl
  have L_39 : ∀ (s1 : St) (H : Heap) (locs : List Loc) (ls : Array Slot), va_P D vwCl (wM y a s1) H → va_S (AC a 30 s.heap.size) s.heap H locs → lv_has ls 7 [(0, .ref (a 0))] → mX8_read_39 s1 = some (r, τ) → W p l e (headSpec zX8_read ({ frames := 59, cells := 1, slots := 400, locals := 1395 })).room s m ([.ref (a 0)] : List Value).toArray below meth c H locs 0 0 (MQ below (va_Qi (fun r' u => r' = r ∧ u = τ) (posW (wM y a) D) (AC a 30 s.heap.size)) ([.ref (a 0)] : List Value).toArray s 1 400 (AC a 30 s.heap.size)) (F0 m 39 ls []) := by
    intro s1 H locs ls hP hS hl hm
    unfold mX8_read_39 at hm
    refine lv_aload_n hx hb dX8_read_39 rfl (lv_at hl 0 rfl) ?_
    refine lv_aload_n hx hb dX8_read_40 rfl (lv_at hl 0 rfl) ?_
    refine gfX8_at hx hb h_X8 hown hK hP l_f145 dX8_read_41 ?_
    refine pfX8_errorAt hx hb h_X8 hown hK hP hI AC_in hS l_f13 dX8_read_44 (fun H locs hP hS => ?_)
    generalize es2 : su s1 2 (fun _ => s1.1 3 0) = s2 at hP
    have hm := bnd_x es2.symm hm
    refine lv_aload_n hx hb dX8_read_47 rfl (lv_at hl 0 rfl) ?_
    refine lv_iconst (v := 0) hx hb dX8_read_48 (by decide) ?_
    refine pfX8_length hx hb h_X8 hown hK hP hI AC_in hS l_f116 dX8_read_49 (fun H locs hP hS => ?_)
    generalize es3 : su s2 1 (fun _ => 0) = s3 at hP
    have hm := bnd_x es3.symm hm
    refine lv_iconst (v := (-1)) hx hb dX8_read_52 (by decide) ?_
    refine W.widen (k := 1) (n := 400) (by omega) (by omega) ?_
    exact W.iret (v := (-1)) hx hb hr (fun T hT hW => ⟨⟨(-1), s3, rfl, ⟨congrArg Prod.fst (Option.some.inj hm), congrArg Prod.snd (Option.some.inj hm)⟩, by rw [posW, hT]; exact hP⟩, hS.F hT⟩) hS.2.2 dX8_read_53
  have L_194 : ∀ (s5 : St) (v4 : Int32) (q : Nat) (hIq : AI (ax a q) 31) (hAq : ∀ k, k < 31 → AC a 30 s.heap.size (ax a q k)) (H : Heap) (locs : List Loc) (ls : Array Slot), va_P D vwCl (wN 400 y a q s5) H → va_S (AC a 30 s.heap.size) s.heap H locs → lv_has ls 7 [(0, .ref (a 0)), (2, .int v4)] → mX8_read_194 s5 v4 = some (r, τ) → W p l e (headSpec zX8_read ({ frames := 59, cells := 1, slots := 400, locals := 1395 })).room s m ([.ref (a 0)] : List Value).toArray below meth c H locs 1 400 (MQ below (va_Qi (fun r' u => r' = r ∧ u = τ) (posW (wM y a) D) (AC a 30 s.heap.size)) ([.ref (a 0)] : List Value).toArray s 1 400 (AC a 30 s.heap.size)) (F0 m 194 ls []) := by
    intro s5 v4 q hIq hAq H locs ls hP hS hl hm
    unfold mX8_read_194 at hm
    refine lv_aload_n hx hb dX8_read_194 rfl (lv_at hl 0 rfl) ?_
    refine lv_iload_n hx hb dX8_read_195 rfl (lv_at hl 1 rfl) ?_
    refine pfNX8_formulas hx hb h_X8 hown hK hP hIq hAq hS l_f109 dX8_read_196 (fun H locs hP hS => ?_)
    generalize es6 : su s5 5 (fun _ => v4) = s6 at hP
    have hm := bnd_x es6.symm hm
    refine lv_aload_n hx hb dX8_read_199 rfl (lv_at hl 0 rfl) ?_
    refine lv_iconst (v := 0) hx hb dX8_read_200 (by decide) ?_
    refine pfNX8_errorAt hx hb h_X8 hown hK hP hIq hAq hS l_f13 dX8_read_201 (fun H locs hP hS => ?_)
    generalize es7 : su s6 2 (fun _ => 0) = s7 at hP
    have hm := bnd_x es7.symm hm
    refine lv_bipush (v := (-2)) hx hb dX8_read_204 (by decide) ?_
    exact W.iret (v := (-2)) hx hb hr (fun T hT hW => ⟨⟨(-2), s7, rfl, ⟨congrArg Prod.fst (Option.some.inj hm), congrArg Prod.snd (Option.some.inj hm)⟩, by rw [posW, hT]; exact (wN_sub hP)⟩, hS.F hT⟩) hS.2.2 dX8_read_206
  have L_73 : ∀ (n : Nat) (s48 : St) (v45 : Int32) (v46 : Int32) (v47 : Int32) (q : Nat) (hIq : AI (ax a q) 31) (hAq : ∀ k, k < 31 → AC a 30 s.heap.size (ax a q k)) (H : Heap) (locs : List Loc) (ls : Array Slot), va_P D vwCl (wN 400 y a q s48) H → va_S (AC a 30 s.heap.size) s.heap H locs → lv_has ls 7 [(0, .ref (a 0)), (1, .int v45), (2, .int v46), (3, .ref q), (4, .int v47)] → mX8_read_73 n s48 v45 v46 v47 = some (r, τ) → W p l e (headSpec zX8_read ({ frames := 59, cells := 1, slots := 400, locals := 1395 })).room s m ([.ref (a 0)] : List Value).toArray below meth c H locs 1 400 (MQ below (va_Qi (fun r' u => r' = r ∧ u = τ) (posW (wM y a) D) (AC a 30 s.heap.size)) ([.ref (a 0)] : List Value).toArray s 1 400 (AC a 30 s.heap.size)) (F0 m 73 ls []) := by
    intro n
    induction n with
    | zero =>
      intro s48 v45 v46 v47 q hIq hAq H locs ls hP hS hl hm
      exact absurd (show (none : Option (Int32 × St)) = some (r, τ) from hm) (by intro h; cases h)
    | succ n ih73 =>
      obtain ⟨kh73, ekh73⟩ : ∃ z, z = mX8_read_73 n := ⟨_, rfl⟩
      have ih73 : ∀ (s48 : St) (v45 : Int32) (v46 : Int32) (v47 : Int32) (q : Nat) (hIq : AI (ax a q) 31) (hAq : ∀ k, k < 31 → AC a 30 s.heap.size (ax a q k)) (H : Heap) (locs : List Loc) (ls : Array Slot), va_P D vwCl (wN 400 y a q s48) H → va_S (AC a 30 s.heap.size) s.heap H locs → lv_has ls 7 [(0, .ref (a 0)), (1, .int v45), (2, .int v46), (3, .ref q), (4, .int v47)] → kh73 s48 v45 v46 v47 = some (r, τ) → W p l e (headSpec zX8_read ({ frames := 59, cells := 1, slots := 400, locals := 1395 })).room s m ([.ref (a 0)] : List Value).toArray below meth c H locs 1 400 (MQ below (va_Qi (fun r' u => r' = r ∧ u = τ) (posW (wM y a) D) (AC a 30 s.heap.size)) ([.ref (a 0)] : List Value).toArray s 1 400 (AC a 30 s.heap.size)) (F0 m 73 ls []) := by rw [ekh73]; exact ih73
      have L_182 : ∀ (s15 : St) (v8 : Int32) (v9 : Int32) (v10 : Int32) (v11 : Int32) (v12 : Int32) (v13 : Int32) (v14 : Int32) (q : Nat) (hIq : AI (ax a q) 31) (hAq : ∀ k, k < 31 → AC a 30 s.heap.size (ax a q k)) (H : Heap) (locs : List Loc) (ls : Array Slot), va_P D vwCl (wN 400 y a q s15) H → va_S (AC a 30 s.heap.size) s.heap H locs → lv_has ls 7 [(0, .ref (a 0)), (1, .int v8), (2, .int v9), (3, .ref q), (4, .int v10)] → mX8_read_182 kh73 s15 v8 v9 v10 v11 v12 v13 v14 = some (r, τ) → W p l e (headSpec zX8_read ({ frames := 59, cells := 1, slots := 400, locals := 1395 })).room s m ([.ref (a 0)] : List Value).toArray below meth c H locs 1 400 (MQ below (va_Qi (fun r' u => r' = r ∧ u = τ) (posW (wM y a) D) (AC a 30 s.heap.size)) ([.ref (a 0)] : List Value).toArray s 1 400 (AC a 30 s.heap.size)) (F0 m 182 ls [.int v11, .int v12, .int v13, .ref (a 0), .int v14, .ref q]) := by
        intro s15 v8 v9 v10 v11 v12 v13 v14 q hIq hAq H locs ls hP hS hl hm
        unfold mX8_read_182 at hm
        obtain ⟨⟨r16, s18⟩, h17, hm⟩ := ok_bind hm
        refine calV_i (As := [.int v13, .int v12, .int v11]) (rest := [.int v14, .ref q]) ⟨hx, hb, hml, hown, hts⟩ (kX8_known l D y a t hI _ s15 s18 v13 v12 v11 r16 h17) (cwV 3 hts (gAV aM_X8_168 aI_X8_known aS_X8_known aN_X8 aC_X8_known) rfl rfl rfl eX8_known ⟨Nat.le_of_ble_eq_true rfl, Nat.le_of_ble_eq_true rfl⟩) (preV_W (ci := 8) (q := (RX8, TX8, 42)) hK (wN_sub hP) hF hS rfl (wM_0 y a s15)) rfl hl.1 rfl (Nat.le_of_ble_eq_true rfl) dX8_read_182 ⟨Nat.le_of_ble_eq_true rfl, Nat.le_of_ble_eq_true rfl⟩ hS (AC_le hS.1) (fun H locs hP1 hS hk1 => ?_)
        have hP := wN_join hIq hP hk1 hP1
        generalize es19 : su s18 42 (s15.1 42) = s19 at hP
        have hm := bnd_x es19.symm hm
        obtain ⟨hi, hm⟩ := ok_I hm
        refine stN_30 hx hb hK hP hIq hAq hS hi dX8_read_185 (fun H locs hP hS => ?_)
        generalize es20 : su s19 42 (upd (s19.1 42) v14.toNatClampNeg r16) = s20 at hP
        have hm := bnd_x es20.symm hm
        refine lv_aload_n hx hb dX8_read_186 rfl (lv_at hl 3 rfl) ?_
        refine lv_iload hx hb dX8_read_187 (lv_at hl 4 rfl) ?_
        obtain ⟨hi, hm⟩ := ok_I hm
        refine ldN_30 hx hb hK hP hi dX8_read_189 ?_
        refine lv_iconst (v := (-1)) hx hb dX8_read_190 (by decide) ?_
        refine lv_icmp_ne (tgt := 207) hx hb dX8_read_191 (by decide) (fun c21 => ?_) (fun c21 => ?_)
        · have hm := (if_neg c21).symm.trans hm
          obtain ⟨x22, ex22⟩ : ∃ z : Int32, z = v10 + 1 := ⟨_, rfl⟩
          have hm := bnd_x ex22 hm
          refine lv_iinc (v := x22) (lv' := [(4, .int x22), (0, .ref (a 0)), (1, .int v8), (2, .int v9), (3, .ref q)]) hx hb dX8_read_207 hl (k := 4) rfl (by rw [ex22]; rfl) (by decide) rfl (fun ls hl => ?_)
          refine lv_goto (tgt := 73) hx hb dX8_read_210 (by decide) ?_
          exact ih73 s20 v8 v9 x22 q hIq hAq _ _ _ hP hS (lv_sub hl [1, 2, 3, 4, 0] rfl) hm
        · have hm := (if_pos c21).symm.trans hm
          exact L_194 s20 v9 q hIq hAq _ _ _ hP hS (lv_sub hl [0, 2] rfl) hm
      have L_181 : ∀ (s29 : St) (v23 : Int32) (v24 : Int32) (v25 : Int32) (v26 : Int32) (v27 : Int32) (v28 : Int32) (q : Nat) (hIq : AI (ax a q) 31) (hAq : ∀ k, k < 31 → AC a 30 s.heap.size (ax a q k)) (H : Heap) (locs : List Loc) (ls : Array Slot), va_P D vwCl (wN 400 y a q s29) H → va_S (AC a 30 s.heap.size) s.heap H locs → lv_has ls 7 [(0, .ref (a 0)), (1, .int v23), (2, .int v24), (3, .ref q), (4, .int v25)] → mX8_read_181 kh73 s29 v23 v24 v25 v26 v27 v28 = some (r, τ) → W p l e (headSpec zX8_read ({ frames := 59, cells := 1, slots := 400, locals := 1395 })).room s m ([.ref (a 0)] : List Value).toArray below meth c H locs 1 400 (MQ below (va_Qi (fun r' u => r' = r ∧ u = τ) (posW (wM y a) D) (AC a 30 s.heap.size)) ([.ref (a 0)] : List Value).toArray s 1 400 (AC a 30 s.heap.size)) (F0 m 181 ls [.int v26, .int v27, .ref (a 0), .int v28, .ref q]) := by
        intro s29 v23 v24 v25 v26 v27 v28 q hIq hAq H locs ls hP hS hl hm
        unfold mX8_read_181 at hm
        refine lv_iconst (v := (-1)) hx hb dX8_read_181 (by decide) ?_
        exact L_182 s29 v23 v24 v25 (-1) v26 v27 v28 q hIq hAq _ _ _ hP hS (lv_sub hl [0, 1, 2, 3, 4] rfl) hm
      have L_138 : ∀ (s35 : St) (v30 : Int32) (v31 : Int32) (v32 : Int32) (v33 : Int32) (v34 : Int32) (q : Nat) (hIq : AI (ax a q) 31) (hAq : ∀ k, k < 31 → AC a 30 s.heap.size (ax a q k)) (H : Heap) (locs : List Loc) (ls : Array Slot), va_P D vwCl (wN 400 y a q s35) H → va_S (AC a 30 s.heap.size) s.heap H locs → lv_has ls 7 [(0, .ref (a 0)), (1, .int v30), (2, .int v31), (3, .ref q), (4, .int v32), (5, .int v33)] → mX8_read_138 kh73 s35 v30 v31 v32 v33 v34 = some (r, τ) → W p l e (headSpec zX8_read ({ frames := 59, cells := 1, slots := 400, locals := 1395 })).room s m ([.ref (a 0)] : List Value).toArray below meth c H locs 1 400 (MQ below (va_Qi (fun r' u => r' = r ∧ u = τ) (posW (wM y a) D) (AC a 30 s.heap.size)) ([.ref (a 0)] : List Value).toArray s 1 400 (AC a 30 s.heap.size)) (F0 m 138 ls [.int v34]) := by
        intro s35 v30 v31 v32 v33 v34 q hIq hAq H locs ls hP hS hl hm
        unfold mX8_read_138 at hm
        refine lv_istore (lv' := [(6, .int v34), (0, .ref (a 0)), (1, .int v30), (2, .int v31), (3, .ref q), (4, .int v32), (5, .int v33)]) hx hb dX8_read_138 hl (by decide) rfl (fun ls hl => ?_)
        refine lv_aload_n hx hb dX8_read_140 rfl (lv_at hl 4 rfl) ?_
        refine lv_iload hx hb dX8_read_141 (lv_at hl 5 rfl) ?_
        refine lv_aload_n hx hb dX8_read_143 rfl (lv_at hl 1 rfl) ?_
        refine lv_aload_n hx hb dX8_read_144 rfl (lv_at hl 1 rfl) ?_
        refine gfNX8_partSorts hx hb h_X8 hown hK hP l_f85 dX8_read_145 ?_
        refine lv_iload hx hb dX8_read_148 (lv_at hl 5 rfl) ?_
        obtain ⟨hi, hm⟩ := ok_I hm
        refine ldN_23 hx hb hK hP hi dX8_read_150 ?_
        refine lv_iload hx hb dX8_read_151 (lv_at hl 0 rfl) ?_
        refine lv_iload hx hb dX8_read_153 (lv_at hl 6 rfl) ?_
        refine lv_if_eq (tgt := 181) hx hb dX8_read_155 (by decide) (fun c36 => ?_) (fun c36 => ?_)
        · have hm := (if_pos c36).symm.trans hm
          exact L_181 s35 v30 v31 v32 v34 (s35.1 35 v32.toNatClampNeg) v32 q hIq hAq _ _ _ hP hS (lv_sub hl [1, 2, 3, 4, 5] rfl) hm
        · have hm := (if_neg c36).symm.trans hm
          refine lv_aload_n hx hb dX8_read_158 rfl (lv_at hl 1 rfl) ?_
          refine gfNX8_partB hx hb h_X8 hown hK hP l_f91 dX8_read_159 ?_
          refine lv_iload hx hb dX8_read_162 (lv_at hl 5 rfl) ?_
          obtain ⟨hi, hm⟩ := ok_I hm
          refine ldN_25 hx hb hK hP hi dX8_read_164 ?_
          refine lv_iconst (v := (-1)) hx hb dX8_read_165 (by decide) ?_
          refine lv_icmp_eq (tgt := 181) hx hb dX8_read_166 (by decide) (fun c37 => ?_) (fun c37 => ?_)
          · have hm := (if_pos c37).symm.trans hm
            exact L_181 s35 v30 v31 v32 v34 (s35.1 35 v32.toNatClampNeg) v32 q hIq hAq _ _ _ hP hS (lv_sub hl [1, 2, 3, 4, 5] rfl) hm
          · have hm := (if_neg c37).symm.trans hm
            refine lv_aload_n hx hb dX8_read_169 rfl (lv_at hl 4 rfl) ?_
            refine lv_aload_n hx hb dX8_read_170 rfl (lv_at hl 1 rfl) ?_
            refine gfNX8_partB hx hb h_X8 hown hK hP l_f91 dX8_read_171 ?_
            refine lv_iload hx hb dX8_read_174 (lv_at hl 5 rfl) ?_
            obtain ⟨hi, hm⟩ := ok_I hm
            refine ldN_25 hx hb hK hP hi dX8_read_176 ?_
            obtain ⟨hi, hm⟩ := ok_I hm
            refine ldN_30 hx hb hK hP hi dX8_read_177 ?_
            refine lv_goto (tgt := 182) hx hb dX8_read_178 (by decide) ?_
            exact L_182 s35 v30 v31 v32 (s35.1 42 (s35.1 37 v32.toNatClampNeg).toNatClampNeg) v34 (s35.1 35 v32.toNatClampNeg) v32 q hIq hAq _ _ _ hP hS (lv_sub hl [1, 2, 3, 4, 5] rfl) hm
      have L_98 : ∀ (s42 : St) (v38 : Int32) (v39 : Int32) (v40 : Int32) (v41 : Int32) (q : Nat) (hIq : AI (ax a q) 31) (hAq : ∀ k, k < 31 → AC a 30 s.heap.size (ax a q k)) (H : Heap) (locs : List Loc) (ls : Array Slot), va_P D vwCl (wN 400 y a q s42) H → va_S (AC a 30 s.heap.size) s.heap H locs → lv_has ls 7 [(0, .ref (a 0)), (1, .int v38), (2, .int v39), (3, .ref q), (4, .int v40)] → mX8_read_98 kh73 s42 v38 v39 v40 v41 = some (r, τ) → W p l e (headSpec zX8_read ({ frames := 59, cells := 1, slots := 400, locals := 1395 })).room s m ([.ref (a 0)] : List Value).toArray below meth c H locs 1 400 (MQ below (va_Qi (fun r' u => r' = r ∧ u = τ) (posW (wM y a) D) (AC a 30 s.heap.size)) ([.ref (a 0)] : List Value).toArray s 1 400 (AC a 30 s.heap.size)) (F0 m 98 ls [.int v41]) := by
        intro s42 v38 v39 v40 v41 q hIq hAq H locs ls hP hS hl hm
        unfold mX8_read_98 at hm
        refine lv_istore (lv' := [(5, .int v41), (0, .ref (a 0)), (1, .int v38), (2, .int v39), (3, .ref q), (4, .int v40)]) hx hb dX8_read_98 hl (by decide) rfl (fun ls hl => ?_)
        refine lv_aload_n hx hb dX8_read_100 rfl (lv_at hl 1 rfl) ?_
        refine gfNX8_partSorts hx hb h_X8 hown hK hP l_f85 dX8_read_101 ?_
        refine lv_iload hx hb dX8_read_104 (lv_at hl 5 rfl) ?_
        obtain ⟨hi, hm⟩ := ok_I hm
        refine ldN_23 hx hb hK hP hi dX8_read_106 ?_
        refine lv_if_ne (tgt := 120) hx hb dX8_read_107 (by decide) (fun c43 => ?_) (fun c43 => ?_)
        · have hm := (if_neg c43).symm.trans hm
          refine lv_iload hx hb dX8_read_120 (lv_at hl 0 rfl) ?_
          refine lv_if_eq (tgt := 137) hx hb dX8_read_122 (by decide) (fun c44 => ?_) (fun c44 => ?_)
          · have hm := (if_pos c44).symm.trans hm
            refine lv_iconst (v := (-1)) hx hb dX8_read_137 (by decide) ?_
            exact L_138 s42 v38 v39 v40 v41 (-1) q hIq hAq _ _ _ hP hS (lv_sub hl [1, 2, 3, 4, 5, 0] rfl) hm
          · have hm := (if_neg c44).symm.trans hm
            refine lv_aload_n hx hb dX8_read_125 rfl (lv_at hl 4 rfl) ?_
            refine lv_aload_n hx hb dX8_read_126 rfl (lv_at hl 1 rfl) ?_
            refine gfNX8_partA hx hb h_X8 hown hK hP l_f88 dX8_read_127 ?_
            refine lv_iload hx hb dX8_read_130 (lv_at hl 5 rfl) ?_
            obtain ⟨hi, hm⟩ := ok_I hm
            refine ldN_24 hx hb hK hP hi dX8_read_132 ?_
            obtain ⟨hi, hm⟩ := ok_I hm
            refine ldN_30 hx hb hK hP hi dX8_read_133 ?_
            refine lv_goto (tgt := 138) hx hb dX8_read_134 (by decide) ?_
            exact L_138 s42 v38 v39 v40 v41 (s42.1 42 (s42.1 36 v40.toNatClampNeg).toNatClampNeg) q hIq hAq _ _ _ hP hS (lv_sub hl [1, 2, 3, 4, 5, 0] rfl) hm
        · have hm := (if_pos c43).symm.trans hm
          refine lv_aload_n hx hb dX8_read_110 rfl (lv_at hl 1 rfl) ?_
          refine gfNX8_partA hx hb h_X8 hown hK hP l_f88 dX8_read_111 ?_
          refine lv_iload hx hb dX8_read_114 (lv_at hl 5 rfl) ?_
          obtain ⟨hi, hm⟩ := ok_I hm
          refine ldN_24 hx hb hK hP hi dX8_read_116 ?_
          refine lv_goto (tgt := 138) hx hb dX8_read_117 (by decide) ?_
          exact L_138 s42 v38 v39 v40 v41 (s42.1 36 v40.toNatClampNeg) q hIq hAq _ _ _ hP hS (lv_sub hl [1, 2, 3, 4, 5, 0] rfl) hm
      intro s48 v45 v46 v47 q hIq hAq H locs ls hP hS hl hm
      have hm : bX8_read_73 (mX8_read_73 n) s48 v45 v46 v47 = some (r, τ) := hm
      rw [← ekh73] at hm
      unfold bX8_read_73 at hm
      refine lv_iload hx hb dX8_read_73 (lv_at hl 4 rfl) ?_
      refine lv_aload_n hx hb dX8_read_75 rfl (lv_at hl 0 rfl) ?_
      refine gfNX8_parts hx hb h_X8 hown hK hP l_f142 dX8_read_76 ?_
      refine lv_icmp_ge (tgt := 213) hx hb dX8_read_79 (by decide) (fun c49 => ?_) (fun c49 => ?_)
      · have hm := (if_pos c49).symm.trans hm
        refine lv_aload_n hx hb dX8_read_213 rfl (lv_at hl 3 rfl) ?_
        refine lv_iload_n hx hb dX8_read_214 rfl (lv_at hl 1 rfl) ?_
        obtain ⟨hi, hm⟩ := ok_I hm
        refine ldN_30 hx hb hK hP hi dX8_read_215 ?_
        exact W.iret (v := s48.1 42 v45.toNatClampNeg) hx hb hr (fun T hT hW => ⟨⟨s48.1 42 v45.toNatClampNeg, s48, rfl, ⟨congrArg Prod.fst (Option.some.inj hm), congrArg Prod.snd (Option.some.inj hm)⟩, by rw [posW, hT]; exact (wN_sub hP)⟩, hS.F hT⟩) hS.2.2 dX8_read_216
      · have hm := (if_neg c49).symm.trans hm
        refine lv_aload_n hx hb dX8_read_82 rfl (lv_at hl 0 rfl) ?_
        refine gfNX8_partSorts hx hb h_X8 hown hK hP l_f85 dX8_read_83 ?_
        refine lv_iload hx hb dX8_read_86 (lv_at hl 4 rfl) ?_
        obtain ⟨hi, hm⟩ := ok_I hm
        refine ldN_23 hx hb hK hP hi dX8_read_88 ?_
        refine lv_iconst (v := 2) hx hb dX8_read_89 (by decide) ?_
        refine lv_icmp_lt (tgt := 97) hx hb dX8_read_90 (by decide) (fun c50 => ?_) (fun c50 => ?_)
        · have hm := (if_pos c50).symm.trans hm
          refine lv_iconst (v := 0) hx hb dX8_read_97 (by decide) ?_
          exact L_98 s48 v45 v46 v47 0 q hIq hAq _ _ _ hP hS (lv_sub hl [0, 1, 2, 3, 4] rfl) hm
        · have hm := (if_neg c50).symm.trans hm
          refine lv_iconst (v := 1) hx hb dX8_read_93 (by decide) ?_
          refine lv_goto (tgt := 98) hx hb dX8_read_94 (by decide) ?_
          exact L_98 s48 v45 v46 v47 1 q hIq hAq _ _ _ hP hS (lv_sub hl [0, 1, 2, 3, 4] rfl) hm
  unfold mX8_read at hm
  refine lv_aload_n hx hb dX8_read_0 rfl (lv_at hl 0 rfl) ?_
  refine lv_iconst (v := 0) hx hb dX8_read_1 (by decide) ?_
  refine pfX8_thrown hx hb h_X8 hown hK hP hI AC_in hS l_f106 dX8_read_2 (fun H locs hP hS => ?_)
  generalize es51 : su σ 0 (fun _ => 0) = s51 at hP
  have hm := bnd_x es51.symm hm
  refine lv_aload_n hx hb dX8_read_5 rfl (lv_at hl 0 rfl) ?_
  refine lv_iconst (v := (-1)) hx hb dX8_read_6 (by decide) ?_
  refine pfX8_errorAt hx hb h_X8 hown hK hP hI AC_in hS l_f13 dX8_read_7 (fun H locs hP hS => ?_)
  generalize es52 : su s51 2 (fun _ => (-1)) = s52 at hP
  have hm := bnd_x es52.symm hm
  refine lv_aload_n hx hb dX8_read_10 rfl (lv_at hl 0 rfl) ?_
  refine lv_iconst (v := 0) hx hb dX8_read_11 (by decide) ?_
  refine pfX8_at hx hb h_X8 hown hK hP hI AC_in hS l_f145 dX8_read_12 (fun H locs hP hS => ?_)
  generalize es53 : su s52 3 (fun _ => 0) = s53 at hP
  have hm := bnd_x es53.symm hm
  refine lv_aload_n hx hb dX8_read_15 rfl (lv_at hl 0 rfl) ?_
  refine lv_iconst (v := 0) hx hb dX8_read_16 (by decide) ?_
  refine pfX8_parts hx hb h_X8 hown hK hP hI AC_in hS l_f142 dX8_read_17 (fun H locs hP hS => ?_)
  generalize es54 : su s53 11 (fun _ => 0) = s54 at hP
  have hm := bnd_x es54.symm hm
  refine lv_aload_n hx hb dX8_read_20 rfl (lv_at hl 0 rfl) ?_
  refine lv_iconst (v := 0) hx hb dX8_read_21 (by decide) ?_
  obtain ⟨⟨r55, s57⟩, h56, hm⟩ := ok_bind hm
  refine calV_i (As := [.int 0]) (rest := []) ⟨hx, hb, hml, hown, hts⟩ (kX8_form l D y a t hI _ s54 s57 0 r55 h56) (cwV 1 hts (gAV aM_X8_159 aI_X8_form aS_X8_form aN_X8 aC_X8_form) rfl rfl rfl eX8_form ⟨Nat.le_of_ble_eq_true rfl, Nat.le_of_ble_eq_true rfl⟩) (preV_W (ci := 8) (q := (RX8, TX8, 42)) hK hP hF hS rfl (wM_0 y a s54)) rfl hl.1 rfl (Nat.le_of_ble_eq_true rfl) dX8_read_22 ⟨Nat.zero_le _, Nat.zero_le _⟩ hS (AC_le hS.1) (fun H locs hP hS hk1 => ?_)
  refine lv_istore_n (lv' := [(1, .int r55), (0, .ref (a 0))]) hx hb dX8_read_25 rfl hl (by decide) rfl (fun ls hl => ?_)
  refine lv_iload_n hx hb dX8_read_26 rfl (lv_at hl 0 rfl) ?_
  refine lv_iconst (v := (-1)) hx hb dX8_read_27 (by decide) ?_
  refine lv_icmp_eq (tgt := 39) hx hb dX8_read_28 (by decide) (fun c58 => ?_) (fun c58 => ?_)
  · have hm := (if_pos c58).symm.trans hm
    exact L_39 s57 _ _ _ hP hS (lv_sub hl [1] rfl) hm
  · have hm := (if_neg c58).symm.trans hm
    refine lv_aload_n hx hb dX8_read_31 rfl (lv_at hl 1 rfl) ?_
    obtain ⟨⟨r59, s61⟩, h60, hm⟩ := ok_bind hm
    refine calV_i (As := []) (rest := []) ⟨hx, hb, hml, hown, hts⟩ (kX8_here l D y a t hI _ s57 s61 r59 h60) (cwV 0 hts (gAV aM_X8_148 aI_X8_here aS_X8_here aN_X8 aC_X8_here) rfl rfl rfl eX8_here ⟨Nat.le_of_ble_eq_true rfl, Nat.le_of_ble_eq_true rfl⟩) (preV_W (ci := 8) (q := (RX8, TX8, 42)) hK hP hF hS rfl (wM_0 y a s57)) rfl hl.1 rfl (Nat.le_of_ble_eq_true rfl) dX8_read_32 ⟨Nat.zero_le _, Nat.zero_le _⟩ hS (AC_le hS.1) (fun H locs hP hS hk1 => ?_)
    refine lv_iconst (v := (-1)) hx hb dX8_read_35 (by decide) ?_
    refine lv_icmp_eq (tgt := 54) hx hb dX8_read_36 (by decide) (fun c62 => ?_) (fun c62 => ?_)
    · have hm := (if_pos c62).symm.trans hm
      refine lv_aload_n hx hb dX8_read_54 rfl (lv_at hl 1 rfl) ?_
      refine lv_iconst (v := 0) hx hb dX8_read_55 (by decide) ?_
      refine pfX8_length hx hb h_X8 hown hK hP hI AC_in hS l_f116 dX8_read_56 (fun H locs hP hS => ?_)
      generalize es63 : su s61 1 (fun _ => 0) = s63 at hP
      have hm := bnd_x es63.symm hm
      refine lv_aload_n hx hb dX8_read_59 rfl (lv_at hl 1 rfl) ?_
      refine gfX8_formulas hx hb h_X8 hown hK hP l_f109 dX8_read_60 ?_
      refine lv_topi (fun x64 ex64 => ?_)
      have hm := bnd_x ex64 hm
      refine lv_istore_n (lv' := [(2, .int x64), (1, .int r55), (0, .ref (a 0))]) hx hb dX8_read_63 rfl hl (by decide) rfl (fun ls hl => ?_)
      refine lv_sipush (v := 400) hx hb dX8_read_64 (by decide) ?_
      refine nwN (n := 400) hx hb l_arr hK hP hI AC_in hS AC_new (by decide) rfl (Nat.le_of_ble_eq_true rfl) (Nat.le_of_ble_eq_true rfl) (Nat.le_of_ble_eq_true rfl) dX8_read_67 (fun q H hIq hAq hP hS => ?_)
      refine W.widen (k := 1) (n := 400) (by decide) (by decide) ?_
      generalize es65 : su s63 42 (fun _ => 0) = s65 at hP
      have hm := bnd_x es65.symm hm
      refine lv_astore_n (lv' := [(3, .ref q), (2, .int x64), (1, .int r55), (0, .ref (a 0))]) hx hb dX8_read_69 rfl hl (by decide) rfl (fun ls hl => ?_)
      refine lv_iconst (v := 0) hx hb dX8_read_70 (by decide) ?_
      refine lv_istore (lv' := [(4, .int 0), (3, .ref q), (2, .int x64), (1, .int r55), (0, .ref (a 0))]) hx hb dX8_read_71 hl (by decide) rfl (fun ls hl => ?_)
      exact L_73 NF s65 r55 x64 0 q hIq hAq _ _ _ hP hS (lv_sub hl [4, 3, 2, 1, 0] rfl) hm
    · have hm := (if_neg c62).symm.trans hm
      exact L_39 s61 _ _ _ hP hS (lv_sub hl [1] rfl) hm
