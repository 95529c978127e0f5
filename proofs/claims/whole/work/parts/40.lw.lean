def ao (a : Nat → Nat) (o : Nat) : Nat → Nat := fun k => if k = 37 then o else a k
theorem ao_lt {a : Nat → Nat} {o k : Nat} (h : k < 37) : ao a o k = a k := if_neg (by omega)
def wO (y : Nat → ClassId) (a : Nat → Nat) (o : Nat) (f : Nat → Int64) (σ : St) : va_W := [(a 0, .inr (7, [.ref (a 1), .ref (a 2), .ref (a 3), .ref (a 4), .ref (a 5), .ref (a 7)])), (a 1, .inr (1, [.ref (a 8), .ref (a 9), .ref (a 10), .ref (a 11), .ref (a 12), .ref (a 13), .ref (a 14), .int (σ.1 0 0)])), (a 2, .inr (5, [.ref (a 1), .ref (a 15), .int (σ.1 1 0), .int (σ.1 2 0), .int (σ.1 3 0)])), (a 3, .inr (2, [.ref (a 1), .ref (a 16), .ref (a 17), .ref (a 18), .int (σ.1 4 0), .int (σ.1 5 0)])), (a 4, .inr (6, [.ref (a 1), .ref (a 19), .ref (a 20), .ref (a 21), .ref (a 22), .ref (a 23), .ref (a 24), .ref (a 25), .int (σ.1 6 0)])), (a 5, .inr (3, [.ref (a 1), .ref (a 4), .ref (a 6), .ref (a 26), .ref (a 27), .ref (a 28), .ref (a 29), .ref (a 30), .ref (a 31), .ref (a 32), .int (σ.1 7 0), .int (σ.1 8 0)])), (a 6, .inr (0, [.ref (a 33), .ref (a 34), .ref (a 35), .int (σ.1 9 0), .int (σ.1 10 0), .int (σ.1 11 0)])), (a 7, .inr (4, [.ref (a 1), .ref (a 4), .ref (a 5), .ref (a 36)])), (a 8, .inl (y 0, 240, .inl (σ.1 12))), (a 9, .inl (y 0, 240, .inl (σ.1 13))), (a 10, .inl (y 0, 240, .inl (σ.1 14))), (a 11, .inl (y 0, 240, .inl (σ.1 15))), (a 12, .inl (y 0, 240, .inl (σ.1 16))), (a 13, .inl (y 0, 240, .inl (σ.1 17))), (a 14, .inl (y 2, 960, .inr (.inl σ.2))), (a 15, .inl (y 1, 400, .inl (σ.1 18))), (a 16, .inl (y 1, 400, .inl (σ.1 19))), (a 17, .inl (y 0, 400, .inl (σ.1 20))), (a 18, .inl (y 0, 400, .inl (σ.1 21))), (a 19, .inl (y 0, 16, .inl (σ.1 22))), (a 20, .inl (y 0, 16, .inl (σ.1 23))), (a 21, .inl (y 0, 16, .inl (σ.1 24))), (a 22, .inl (y 0, 16, .inl (σ.1 25))), (a 23, .inl (y 0, 16, .inl (σ.1 26))), (a 24, .inl (y 0, 16, .inl (σ.1 27))), (a 25, .inl (y 0, 240, .inl (σ.1 28))), (a 26, .inl (y 0, 60, .inl (σ.1 29))), (a 27, .inl (y 0, 60, .inl (σ.1 30))), (a 28, .inl (y 0, 180, .inl (σ.1 31))), (a 29, .inl (y 0, 180, .inl (σ.1 32))), (a 30, .inl (y 0, 60, .inl (σ.1 33))), (a 31, .inl (y 3, 60, .inl (σ.1 34))), (a 32, .inl (y 0, 120, .inl (σ.1 35))), (a 33, .inl (y 0, 60, .inl (σ.1 36))), (a 34, .inl (y 0, 60, .inl (σ.1 37))), (a 35, .inl (y 0, 60, .inl (σ.1 38))), (a 36, .inl (y 0, 4, .inl (σ.1 39))), (o, .inl (y 2, 1, .inr (.inl f)))]
theorem wO_ad (y : Nat → ClassId) (a : Nat → Nat) (o : Nat) (f : Nat → Int64) (σ : St) : (wO y a o f σ).map (fun q => q.1) = (List.range 38).map (ao a o) := rfl
theorem AC_ao {a : Nat → Nat} {o sz sz' : Nat} (h : sz ≤ sz') : ∀ q, AC a 37 sz' q → AC (ao a o) 38 sz q := fun q hq => hq.elim (fun ⟨k, h1, h2⟩ => Or.inl ⟨k, by omega, by rw [ao_lt h1]; exact h2⟩) (fun h1 => Or.inr (Nat.le_trans h h1))
def preO (D : va_G) (y : Nat → ClassId) (a : Nat → Nat) (o : Nat) (t ts : Nat → Nat) (f : Nat → Int64) (σ : St) (sz : Nat) (U : State) : Prop :=
  (U.heap.size = sz ∧ va_P D vwCl (wO y a o f σ) U.heap ∧ va_K D vwCl (tysA y) U ∧ SF t (AC (ao a o) 38 sz) U) ∧ EX ts U
def posO (D : va_G) (y : Nat → ClassId) (a : Nat → Nat) (o : Nat) (u : St × (Nat → Int64)) (T : State) : Prop := va_P D vwCl (wO y a o u.2 u.1) T.heap
theorem preO_blind {D : va_G} {y : Nat → ClassId} {a : Nat → Nat} {o : Nat} {t ts : Nat → Nat} {f : Nat → Int64} {σ : St} {sz : Nat} {av : List Value} : FrameBlind (va_Pc av (preO D y a o t ts f σ sz)) := by
  intro b U g mk q
  obtain ⟨q0, ⟨q1, q2, q3, q4⟩, q5⟩ := q
  exact ⟨q0, ⟨q1, q2, va_K.moved (u := U) (U := U.calling g mk b) (Vm.Alike.refl U.vm) q3, q4.next (U := U.calling g mk b) (Vm.Alike.refl U.vm) rfl va_S.rf (fun _ h => h)⟩, q5.calling⟩
section
variable {p : Program} {l : Launch} {e : Env} {R : Room} {s : State} {m : MethodId} {args : Array Value} {below : List Frame} {meth : Method} {c : Code} {H : Heap} {locs : List Loc} {cells slots : Nat} {Q : State → Prop} {cc : ByteArray} {pc : Nat} {ls : Array Slot} {rest : List Value} {D : va_G} {y : Nat → ClassId} {a t ts : Nat → Nat} {o : Nat} {f : Nat → Int64} {σ : St}
theorem wO_sub (hP : va_P D vwCl (wO y a o f σ) H) : va_P D vwCl (wC y a σ) H := hP.sub (List.range 37) rfl
theorem wO_join {H1 : Heap} {τ : St} (hI : AI (ao a o) 38) (hP : va_P D vwCl (wO y a o f σ) H) (hk : ∀ z : Nat, z < H.size → ¬ AC a 37 H.size z → H1[z]? = H[z]?) (hP1 : va_P D vwCl (wC y a τ) H1) : va_P D vwCl (wO y a o f τ) H1 := by
  have h30 := hP 37 _ rfl
  have hlt : o < H.size := h30.lt
  have hne : ¬ AC a 37 H.size o := by
    rintro (⟨k, h1, h2⟩ | h)
    · have := hI k 37 (by omega) (by omega) (by rw [ao_lt h1]; exact h2.symm)
      omega
    · omega
  have h31 := h30.kept (hk o hlt hne)
  exact va_P.app (w1 := wC y a τ) (w2 := [(o, .inl (y 2, 1, .inr (.inl f)))]) hP1 (fun k q hz => by
    cases k with
    | zero => cases hz; exact h31
    | succ k => simp at hz)
theorem ao_I (hI : AI (ao a o) 38) : AI a 37 := fun i j hi hj h => hI i j (by omega) (by omega) (by rw [ao_lt hi, ao_lt hj]; exact h)
theorem preV_O (hK : va_K D vwCl (tysA y) s) (hP : va_P D vwCl (wO y a o f σ) H) (hF : SF t (AC (ao a o) 38 s.heap.size) s) (hS : va_S (AC (ao a o) 38 s.heap.size) s.heap H locs) {As : List Value} : PreV s H RX7 (a 0) (va_Pc (.ref (a 0) :: As) (preW (wC y a) a 37 D y t σ H.size)) As :=
  ⟨preW_blind, va_recv (ci := 7) (q := (RX7, TX7, 6)) hK (wO_sub hP) rfl (wC_0 y a σ), fun U hU hW => ⟨rfl, by rw [hU], by rw [hU]; exact wO_sub hP, va_K.moved hW.alike hK, hF.next hW.alike hU hS (AC_ao hS.1)⟩⟩
theorem preV_OE (hK : va_K D vwCl (tysA y) s) (hP : va_P D vwCl (wO y a o f σ) H) (hF : SF t (AC (ao a o) 38 s.heap.size) s) (hE : EX ts s) (hS : va_S (AC (ao a o) 38 s.heap.size) s.heap H locs) {As : List Value} : PreV s H RX7 (a 0) (va_Pc (.ref (a 0) :: As) (preE (wC y a) a 37 D y t ts σ H.size)) As :=
  ⟨preE_blind, va_recv (ci := 7) (q := (RX7, TX7, 6)) hK (wO_sub hP) rfl (wC_0 y a σ), fun U hU hW => ⟨rfl, ⟨by rw [hU], by rw [hU]; exact wO_sub hP, va_K.moved hW.alike hK, hF.next hW.alike hU hS (AC_ao hS.1)⟩, hE.warm hW⟩⟩
/-- the answer goes into the law's row -/
theorem stO (hx : p.tables.exec = Jvm.exec) (hb : c.code = cc) (hK : va_K D vwCl (tysA y) s) (hP : va_P D vwCl (wO y a o f σ) H) (hI : AI (ao a o) 38) (hS : va_S (AC (ao a o) 38 s.heap.size) s.heap H locs) {x : Int64} (hdg : decode cc pc = .ok (.lastore, 1))
    (kk : ∀ (H : Heap) (locs : List Loc), va_P D vwCl (wO y a o (vp_updL f 0 x) σ) H → va_S (AC (ao a o) 38 s.heap.size) s.heap H locs → W p l e R s m args below meth c H locs cells slots Q (F0 m (pc + 1) ls rest)) : W p l e R s m args below meth c H locs cells slots Q (F0 m pc ls (.long x :: .int 0 :: .ref o :: rest)) :=
  va_last (i := 0) hx hb hK hP (dd_of (wO_ad y a o f σ) hI AC_in) hS 37 2 rfl rfl (by intro h; rcases h with h | h <;> revert h <;> decide) hdg (fun H1 locs1 h1 _ h3 => kk H1 locs1 h1 h3)
end

theorem eL_feed : yL_feed.cls ≠ "java/lang/invoke/MethodHandle" ∧ yL_feed.cls ≠ "java/lang/invoke/VarHandle" ∧ (parseMethodDescriptor yL_feed.desc).map (fun d => d.parameters.length) = some 7 := by decide +kernel
set_option maxHeartbeats 4000000 in
set_option maxRecDepth 100000 in
theorem kL_feed (l : Launch) (D : va_G) (y : Nat → ClassId) (a : Nat → Nat) (o : Nat) (t ts : Nat → Nat) (hI : AI (ao a o) 38) (sz : Nat) (f : Nat → Int64) (σ τ : St) (p1 : Int32) (p2 : Int32) (p3 : Int32) (p4 : Int32) (p5 : Int32) (r : Int32) (hm : mX7_feed σ p1 p2 p3 p4 p5 = some (r, τ)) : Met l yL_feed zL_feed { frames := 7, cells := 1, slots := 6, locals := 123 } (va_Pc [.ref (a 0), .int p1, .int p2, .int p3, .int p4, .int p5, .ref o] (preO D y a o t ts f σ sz)) (va_Qi (fun r' u => r' = 0 ∧ u = (τ, vp_updL f 0 r.toInt64)) (posO D y a o) (AC (ao a o) 38 sz)) 1 6 (AC (ao a o) 38 sz) := by
  refine va_MetW (cc := cL_feed) (maxL := 8) (ret := (some .int)) (hh := [(0, 16, 19, 13)]) (by decide) rfl ?_
  intro p e s m args below meth c s₁ B hml hv
  obtain ⟨rfl, ⟨hsz, hP, hK, hF⟩, hE⟩ := hv
  have hx := B.exec
  have hb := B.bytes
  have hr := B.returns
  have hts := atoms_spec (ws := zL_feed) B.pre
  have hown : s.vm.findClass RL = some m.cls := findClass_of_methodNamed B.named
  have hlocks := B.notSynchronized
  subst hsz
  have hS : va_S (AC (ao a o) 38 s.heap.size) s.heap s.heap [] := va_S.rf
  have hl := lv_entry ([.ref (a 0), .int p1, .int p2, .int p3, .int p4, .int p5, .ref o]) (n := 8) (Nat.le_of_ble_eq_true rfl)
  rw [lg_entry_eq]
  generalize (lg_sl ([.ref (a 0), .int p1, .int p2, .int p3, .int p4, .int p5, .ref o]) ++ List.replicate (8 - (lg_sl ([.ref (a 0), .int p1, .int p2, .int p3, .int p4, .int p5, .ref o])).length) Slot.unset).toArray = ls at hl ⊢
  have hl : lv_has ls 8 [(0, .ref (a 0)), (1, .int p1), (2, .int p2), (3, .int p3), (4, .int p4), (5, .int p5), (6, .ref o)] := hl
  refine lv_aload hx hb dL_feed_0 (lv_at hl 6 rfl) ?_
  refine lv_iconst (v := 0) hx hb dL_feed_2 (by decide) ?_
  refine lv_aload_n hx hb dL_feed_3 rfl (lv_at hl 0 rfl) ?_
  refine lv_iload_n hx hb dL_feed_4 rfl (lv_at hl 1 rfl) ?_
  refine lv_iload_n hx hb dL_feed_5 rfl (lv_at hl 2 rfl) ?_
  refine lv_iload_n hx hb dL_feed_6 rfl (lv_at hl 3 rfl) ?_
  refine lv_iload hx hb dL_feed_7 (lv_at hl 4 rfl) ?_
  refine lv_iload hx hb dL_feed_9 (lv_at hl 5 rfl) ?_
  refine calV_i (As := [.int p1, .int p2, .int p3, .int p4, .int p5]) (rest := [.int 0, .ref o]) ⟨hx, hb, hml, hown, hts⟩ (kX7_feed l D y a t (ao_I hI) _ σ τ p1 p2 p3 p4 p5 r hm) (cwV 5 hts (gAV aM_L_7 aI_X7_feed aS_X7_feed aN_X7 aC_X7_feed) rfl rfl rfl eX7_feed ⟨Nat.le_of_ble_eq_true rfl, Nat.le_of_ble_eq_true rfl⟩) (preV_O hK hP hF hS) rfl hl.1 rfl (Nat.le_of_ble_eq_true rfl) dL_feed_11 ⟨Nat.zero_le _, Nat.zero_le _⟩ hS (AC_ao hS.1) (fun H locs hP1 hS hk1 => ?_)
  have hP := wO_join hI hP hk1 hP1
  refine lv_i2l (v := r.toInt64) hx hb dL_feed_14 rfl ?_
  refine stO hx hb hK hP hI hS dL_feed_15 (fun H locs hP hS => ?_)
  refine lv_goto (tgt := 23) hx hb dL_feed_16 (by decide) ?_
  refine lv_iconst (v := 0) hx hb dL_feed_23 (by decide) ?_
  refine W.widen (k := 1) (n := 6) (by decide) (by decide) ?_
  exact W.iret (v := 0) hx hb hr (fun T hT hW => ⟨⟨0, (τ, vp_updL f 0 r.toInt64), rfl, ⟨rfl, rfl⟩, by rw [posO, hT]; exact hP⟩, hS.F hT⟩) hS.2.2 dL_feed_24
set_option maxHeartbeats 4000000 in
set_option maxRecDepth 100000 in
theorem xL_feed_1 (l : Launch) (hfl : l.stackTraces = false) (D : va_G) (y : Nat → ClassId) (a : Nat → Nat) (o : Nat) (t ts : Nat → Nat) (hI : AI (ao a o) 38) (sz : Nat) (f : Nat → Int64) (σ τ : St) (p1 : Int32) (p2 : Int32) (p3 : Int32) (p4 : Int32) (p5 : Int32) (hm : tX7_feed σ p1 p2 p3 p4 p5 = some (1, τ)) : Met l yL_feed zL_feed { frames := 7, cells := 1, slots := 6, locals := 123 } (va_Pc [.ref (a 0), .int p1, .int p2, .int p3, .int p4, .int p5, .ref o] (preO D y a o t ts f σ sz)) (va_Qi (fun r' u => r' = 1 ∧ u = (τ, f)) (posO D y a o) (AC (ao a o) 38 sz)) 1 6 (AC (ao a o) 38 sz) := by
  refine va_MetW (cc := cL_feed) (maxL := 8) (ret := (some .int)) (hh := [(0, 16, 19, 13)]) (by decide) rfl ?_
  intro p e s m args below meth c s₁ B hml hv
  obtain ⟨rfl, ⟨hsz, hP, hK, hF⟩, hE⟩ := hv
  have hx := B.exec
  have hb := B.bytes
  have hr := B.returns
  have hts := atoms_spec (ws := zL_feed) B.pre
  have hown : s.vm.findClass RL = some m.cls := findClass_of_methodNamed B.named
  have hlocks := B.notSynchronized
  subst hsz
  have hS : va_S (AC (ao a o) 38 s.heap.size) s.heap s.heap [] := va_S.rf
  have hl := lv_entry ([.ref (a 0), .int p1, .int p2, .int p3, .int p4, .int p5, .ref o]) (n := 8) (Nat.le_of_ble_eq_true rfl)
  rw [lg_entry_eq]
  generalize (lg_sl ([.ref (a 0), .int p1, .int p2, .int p3, .int p4, .int p5, .ref o]) ++ List.replicate (8 - (lg_sl ([.ref (a 0), .int p1, .int p2, .int p3, .int p4, .int p5, .ref o])).length) Slot.unset).toArray = ls at hl ⊢
  have hl : lv_has ls 8 [(0, .ref (a 0)), (1, .int p1), (2, .int p2), (3, .int p3), (4, .int p4), (5, .int p5), (6, .ref o)] := hl
  refine lv_aload hx hb dL_feed_0 (lv_at hl 6 rfl) ?_
  refine lv_iconst (v := 0) hx hb dL_feed_2 (by decide) ?_
  refine lv_aload_n hx hb dL_feed_3 rfl (lv_at hl 0 rfl) ?_
  refine lv_iload_n hx hb dL_feed_4 rfl (lv_at hl 1 rfl) ?_
  refine lv_iload_n hx hb dL_feed_5 rfl (lv_at hl 2 rfl) ?_
  refine lv_iload_n hx hb dL_feed_6 rfl (lv_at hl 3 rfl) ?_
  refine lv_iload hx hb dL_feed_7 (lv_at hl 4 rfl) ?_
  refine lv_iload hx hb dL_feed_9 (lv_at hl 5 rfl) ?_
  refine vx_calli (post := fun (_ : Int32) (_ : Unit) => False) (B := fun _ _ => True) (A1 := AC a 37 s.heap.size) (vx_runV (mc := 1) (ms := 6) (As := [.int p1, .int p2, .int p3, .int p4, .int p5]) (rest := [.int 0, .ref o]) ⟨hx, hb, hml, hown, hts⟩ (xX7_feed l hfl D y a t ts (ao_I hI) (va_Qi (S := Unit) (fun _ _ => False) (fun _ _ => True) (AC a 37 s.heap.size)) _ σ τ p1 p2 p3 p4 p5 1 hm) (cwV 5 hts (gAV aM_L_7 aI_X7_feed aS_X7_feed aN_X7 aC_X7_feed) rfl rfl rfl eX7_feed ⟨Nat.le_of_ble_eq_true rfl, Nat.le_of_ble_eq_true rfl⟩) (preV_OE hK hP hF hE hS) rfl rfl hl.1 rfl (lv_room (Nat.le_of_ble_eq_true rfl)) dL_feed_11 ⟨Nat.le_of_ble_eq_true rfl, Nat.le_of_ble_eq_true rfl⟩) hS (fun q _ h => AC_ao hS.1 q h) (AC_ao hS.1) (fun q _ h => AC_ao hS.1 q h) (fun E ce q9 u T H1 locs1 ht hvm hpx hBX hz hk1 hS hce hcv hcl => ?_) (fun _ _ _ _ _ _ _ h => h.elim)
  obtain ⟨rfl, hP1⟩ := hBX
  unfold posW at hP1
  rw [ht, hpx] at hP1
  have hP := wO_join hI hP hk1 hP1
  have htab := vx_table (x := yL_feed) B (hts _ List.mem_cons_self)
  refine vx_catch hown [] ⟨0, 16, 19, 13⟩ [] (by rw [htab]; rfl) (fun _ h => absurd h List.not_mem_nil) (by decide) (by decide) (hts _ (List.mem_cons_of_mem _ xC1)) (va_Nw.use rfl hE.1.1.1) hce hcv hcl ?_
  refine lv_astore (lv' := [(7, .ref q9), (0, .ref (a 0)), (1, .int p1), (2, .int p2), (3, .int p3), (4, .int p4), (5, .int p5), (6, .ref o)]) hx hb dL_feed_19 hl (by decide) rfl (fun ls hl => ?_)
  refine lv_iconst (v := 1) hx hb dL_feed_21 (by decide) ?_
  exact W.iret (v := 1) hx hb hr (fun T hT hW => ⟨⟨1, (τ, f), rfl, ⟨rfl, rfl⟩, by rw [posO, hT]; exact hP⟩, hS.F hT⟩) hS.2.2 dL_feed_22
theorem eL_trim : yL_trim.cls ≠ "java/lang/invoke/MethodHandle" ∧ yL_trim.cls ≠ "java/lang/invoke/VarHandle" ∧ (parseMethodDescriptor yL_trim.desc).map (fun d => d.parameters.length) = some 3 := by decide +kernel
set_option maxHeartbeats 4000000 in
set_option maxRecDepth 100000 in
theorem kL_trim (l : Launch) (D : va_G) (y : Nat → ClassId) (a : Nat → Nat) (o : Nat) (t ts : Nat → Nat) (hI : AI (ao a o) 38) (sz : Nat) (f : Nat → Int64) (σ τ : St) (p1 : Int32) (r : Int32) (hm : mX7_trim σ p1 = some (r, τ)) : Met l yL_trim zL_trim { frames := 7, cells := 1, slots := 6, locals := 119 } (va_Pc [.ref (a 0), .int p1, .ref o] (preO D y a o t ts f σ sz)) (va_Qi (fun r' u => r' = 0 ∧ u = (τ, vp_updL f 0 r.toInt64)) (posO D y a o) (AC (ao a o) 38 sz)) 1 6 (AC (ao a o) 38 sz) := by
  refine va_MetW (cc := cL_trim) (maxL := 4) (ret := (some .int)) (hh := [(0, 9, 12, 19)]) (by decide) rfl ?_
  intro p e s m args below meth c s₁ B hml hv
  obtain ⟨rfl, ⟨hsz, hP, hK, hF⟩, hE⟩ := hv
  have hx := B.exec
  have hb := B.bytes
  have hr := B.returns
  have hts := atoms_spec (ws := zL_trim) B.pre
  have hown : s.vm.findClass RL = some m.cls := findClass_of_methodNamed B.named
  have hlocks := B.notSynchronized
  subst hsz
  have hS : va_S (AC (ao a o) 38 s.heap.size) s.heap s.heap [] := va_S.rf
  have hl := lv_entry ([.ref (a 0), .int p1, .ref o]) (n := 4) (Nat.le_of_ble_eq_true rfl)
  rw [lg_entry_eq]
  generalize (lg_sl ([.ref (a 0), .int p1, .ref o]) ++ List.replicate (4 - (lg_sl ([.ref (a 0), .int p1, .ref o])).length) Slot.unset).toArray = ls at hl ⊢
  have hl : lv_has ls 4 [(0, .ref (a 0)), (1, .int p1), (2, .ref o)] := hl
  refine lv_aload_n hx hb dL_trim_0 rfl (lv_at hl 2 rfl) ?_
  refine lv_iconst (v := 0) hx hb dL_trim_1 (by decide) ?_
  refine lv_aload_n hx hb dL_trim_2 rfl (lv_at hl 0 rfl) ?_
  refine lv_iload_n hx hb dL_trim_3 rfl (lv_at hl 1 rfl) ?_
  refine calV_i (As := [.int p1]) (rest := [.int 0, .ref o]) ⟨hx, hb, hml, hown, hts⟩ (kX7_trim l D y a t (ao_I hI) _ σ τ p1 r hm) (cwV 1 hts (gAV aM_L_15 aI_X7_trim aS_X7_trim aN_X7 aC_X7_trim) rfl rfl rfl eX7_trim ⟨Nat.le_of_ble_eq_true rfl, Nat.le_of_ble_eq_true rfl⟩) (preV_O hK hP hF hS) rfl hl.1 rfl (Nat.le_of_ble_eq_true rfl) dL_trim_4 ⟨Nat.zero_le _, Nat.zero_le _⟩ hS (AC_ao hS.1) (fun H locs hP1 hS hk1 => ?_)
  have hP := wO_join hI hP hk1 hP1
  refine lv_i2l (v := r.toInt64) hx hb dL_trim_7 rfl ?_
  refine stO hx hb hK hP hI hS dL_trim_8 (fun H locs hP hS => ?_)
  refine lv_goto (tgt := 15) hx hb dL_trim_9 (by decide) ?_
  refine lv_iconst (v := 0) hx hb dL_trim_15 (by decide) ?_
  refine W.widen (k := 1) (n := 6) (by decide) (by decide) ?_
  exact W.iret (v := 0) hx hb hr (fun T hT hW => ⟨⟨0, (τ, vp_updL f 0 r.toInt64), rfl, ⟨rfl, rfl⟩, by rw [posO, hT]; exact hP⟩, hS.F hT⟩) hS.2.2 dL_trim_16
set_option maxHeartbeats 4000000 in
set_option maxRecDepth 100000 in
theorem xL_trim_2 (l : Launch) (hfl : l.stackTraces = false) (D : va_G) (y : Nat → ClassId) (a : Nat → Nat) (o : Nat) (t ts : Nat → Nat) (hI : AI (ao a o) 38) (sz : Nat) (f : Nat → Int64) (σ τ : St) (p1 : Int32) (hm : tX7_trim σ p1 = some (2, τ)) : Met l yL_trim zL_trim { frames := 7, cells := 1, slots := 6, locals := 119 } (va_Pc [.ref (a 0), .int p1, .ref o] (preO D y a o t ts f σ sz)) (va_Qi (fun r' u => r' = 1 ∧ u = (τ, f)) (posO D y a o) (AC (ao a o) 38 sz)) 1 6 (AC (ao a o) 38 sz) := by
  refine va_MetW (cc := cL_trim) (maxL := 4) (ret := (some .int)) (hh := [(0, 9, 12, 19)]) (by decide) rfl ?_
  intro p e s m args below meth c s₁ B hml hv
  obtain ⟨rfl, ⟨hsz, hP, hK, hF⟩, hE⟩ := hv
  have hx := B.exec
  have hb := B.bytes
  have hr := B.returns
  have hts := atoms_spec (ws := zL_trim) B.pre
  have hown : s.vm.findClass RL = some m.cls := findClass_of_methodNamed B.named
  have hlocks := B.notSynchronized
  subst hsz
  have hS : va_S (AC (ao a o) 38 s.heap.size) s.heap s.heap [] := va_S.rf
  have hl := lv_entry ([.ref (a 0), .int p1, .ref o]) (n := 4) (Nat.le_of_ble_eq_true rfl)
  rw [lg_entry_eq]
  generalize (lg_sl ([.ref (a 0), .int p1, .ref o]) ++ List.replicate (4 - (lg_sl ([.ref (a 0), .int p1, .ref o])).length) Slot.unset).toArray = ls at hl ⊢
  have hl : lv_has ls 4 [(0, .ref (a 0)), (1, .int p1), (2, .ref o)] := hl
  refine lv_aload_n hx hb dL_trim_0 rfl (lv_at hl 2 rfl) ?_
  refine lv_iconst (v := 0) hx hb dL_trim_1 (by decide) ?_
  refine lv_aload_n hx hb dL_trim_2 rfl (lv_at hl 0 rfl) ?_
  refine lv_iload_n hx hb dL_trim_3 rfl (lv_at hl 1 rfl) ?_
  refine vx_calli (post := fun (_ : Int32) (_ : Unit) => False) (B := fun _ _ => True) (A1 := AC a 37 s.heap.size) (vx_runV (mc := 1) (ms := 6) (As := [.int p1]) (rest := [.int 0, .ref o]) ⟨hx, hb, hml, hown, hts⟩ (xX7_trim l hfl D y a t ts (ao_I hI) (va_Qi (S := Unit) (fun _ _ => False) (fun _ _ => True) (AC a 37 s.heap.size)) _ σ τ p1 2 hm) (cwV 1 hts (gAV aM_L_15 aI_X7_trim aS_X7_trim aN_X7 aC_X7_trim) rfl rfl rfl eX7_trim ⟨Nat.le_of_ble_eq_true rfl, Nat.le_of_ble_eq_true rfl⟩) (preV_OE hK hP hF hE hS) rfl rfl hl.1 rfl (lv_room (Nat.le_of_ble_eq_true rfl)) dL_trim_4 ⟨Nat.le_of_ble_eq_true rfl, Nat.le_of_ble_eq_true rfl⟩) hS (fun q _ h => AC_ao hS.1 q h) (AC_ao hS.1) (fun q _ h => AC_ao hS.1 q h) (fun E ce q9 u T H1 locs1 ht hvm hpx hBX hz hk1 hS hce hcv hcl => ?_) (fun _ _ _ _ _ _ _ h => h.elim)
  obtain ⟨rfl, hP1⟩ := hBX
  unfold posW at hP1
  rw [ht, hpx] at hP1
  have hP := wO_join hI hP hk1 hP1
  have htab := vx_table (x := yL_trim) B (hts _ List.mem_cons_self)
  refine vx_catch hown [] ⟨0, 9, 12, 19⟩ [] (by rw [htab]; rfl) (fun _ h => absurd h List.not_mem_nil) (by decide) (by decide) (hts _ (List.mem_cons_of_mem _ xC2)) (va_Nw.use rfl hE.1.1.2.1) hce hcv hcl ?_
  refine lv_astore_n (lv' := [(3, .ref q9), (0, .ref (a 0)), (1, .int p1), (2, .ref o)]) hx hb dL_trim_12 rfl hl (by decide) rfl (fun ls hl => ?_)
  refine lv_iconst (v := 1) hx hb dL_trim_13 (by decide) ?_
  exact W.iret (v := 1) hx hb hr (fun T hT hW => ⟨⟨1, (τ, f), rfl, ⟨rfl, rfl⟩, by rw [posO, hT]; exact hP⟩, hS.F hT⟩) hS.2.2 dL_trim_14
theorem eL_make : yL_make.cls ≠ "java/lang/invoke/MethodHandle" ∧ yL_make.cls ≠ "java/lang/invoke/VarHandle" ∧ (parseMethodDescriptor yL_make.desc).map (fun d => d.parameters.length) = some 5 := by decide +kernel
set_option maxHeartbeats 4000000 in
set_option maxRecDepth 100000 in
theorem kL_make (l : Launch) (D : va_G) (y : Nat → ClassId) (a : Nat → Nat) (o : Nat) (t ts : Nat → Nat) (hI : AI (ao a o) 38) (sz : Nat) (f : Nat → Int64) (σ τ : St) (p1 : Int32) (p2 : Int32) (p3 : Int32) (r : Int32) (hm : mX7_make σ p1 p2 p3 = some (r, τ)) : Met l yL_make zL_make { frames := 7, cells := 1, slots := 6, locals := 122 } (va_Pc [.ref (a 0), .int p1, .int p2, .int p3, .ref o] (preO D y a o t ts f σ sz)) (va_Qi (fun r' u => r' = 0 ∧ u = (τ, vp_updL f 0 r.toInt64)) (posO D y a o) (AC (ao a o) 38 sz)) 1 6 (AC (ao a o) 38 sz) := by
  refine va_MetW (cc := cL_make) (maxL := 6) (ret := (some .int)) (hh := [(0, 12, 15, 19), (0, 12, 19, 25), (0, 12, 23, 13)]) (by decide) rfl ?_
  intro p e s m args below meth c s₁ B hml hv
  obtain ⟨rfl, ⟨hsz, hP, hK, hF⟩, hE⟩ := hv
  have hx := B.exec
  have hb := B.bytes
  have hr := B.returns
  have hts := atoms_spec (ws := zL_make) B.pre
  have hown : s.vm.findClass RL = some m.cls := findClass_of_methodNamed B.named
  have hlocks := B.notSynchronized
  subst hsz
  have hS : va_S (AC (ao a o) 38 s.heap.size) s.heap s.heap [] := va_S.rf
  have hl := lv_entry ([.ref (a 0), .int p1, .int p2, .int p3, .ref o]) (n := 6) (Nat.le_of_ble_eq_true rfl)
  rw [lg_entry_eq]
  generalize (lg_sl ([.ref (a 0), .int p1, .int p2, .int p3, .ref o]) ++ List.replicate (6 - (lg_sl ([.ref (a 0), .int p1, .int p2, .int p3, .ref o])).length) Slot.unset).toArray = ls at hl ⊢
  have hl : lv_has ls 6 [(0, .ref (a 0)), (1, .int p1), (2, .int p2), (3, .int p3), (4, .ref o)] := hl
  refine lv_aload hx hb dL_make_0 (lv_at hl 4 rfl) ?_
  refine lv_iconst (v := 0) hx hb dL_make_2 (by decide) ?_
  refine lv_aload_n hx hb dL_make_3 rfl (lv_at hl 0 rfl) ?_
  refine lv_iload_n hx hb dL_make_4 rfl (lv_at hl 1 rfl) ?_
  refine lv_iload_n hx hb dL_make_5 rfl (lv_at hl 2 rfl) ?_
  refine lv_iload_n hx hb dL_make_6 rfl (lv_at hl 3 rfl) ?_
  refine calV_i (As := [.int p1, .int p2, .int p3]) (rest := [.int 0, .ref o]) ⟨hx, hb, hml, hown, hts⟩ (kX7_make l D y a t (ao_I hI) _ σ τ p1 p2 p3 r hm) (cwV 3 hts (gAV aM_L_21 aI_X7_make aS_X7_make aN_X7 aC_X7_make) rfl rfl rfl eX7_make ⟨Nat.le_of_ble_eq_true rfl, Nat.le_of_ble_eq_true rfl⟩) (preV_O hK hP hF hS) rfl hl.1 rfl (Nat.le_of_ble_eq_true rfl) dL_make_7 ⟨Nat.zero_le _, Nat.zero_le _⟩ hS (AC_ao hS.1) (fun H locs hP1 hS hk1 => ?_)
  have hP := wO_join hI hP hk1 hP1
  refine lv_i2l (v := r.toInt64) hx hb dL_make_10 rfl ?_
  refine stO hx hb hK hP hI hS dL_make_11 (fun H locs hP hS => ?_)
  refine lv_goto (tgt := 27) hx hb dL_make_12 (by decide) ?_
  refine lv_iconst (v := 0) hx hb dL_make_27 (by decide) ?_
  refine W.widen (k := 1) (n := 6) (by decide) (by decide) ?_
  exact W.iret (v := 0) hx hb hr (fun T hT hW => ⟨⟨0, (τ, vp_updL f 0 r.toInt64), rfl, ⟨rfl, rfl⟩, by rw [posO, hT]; exact hP⟩, hS.F hT⟩) hS.2.2 dL_make_28
set_option maxHeartbeats 4000000 in
set_option maxRecDepth 100000 in
theorem xL_make_1 (l : Launch) (hfl : l.stackTraces = false) (D : va_G) (y : Nat → ClassId) (a : Nat → Nat) (o : Nat) (t ts : Nat → Nat) (hI : AI (ao a o) 38) (sz : Nat) (f : Nat → Int64) (σ τ : St) (p1 : Int32) (p2 : Int32) (p3 : Int32) (hm : tX7_make σ p1 p2 p3 = some (1, τ)) : Met l yL_make zL_make { frames := 7, cells := 1, slots := 6, locals := 122 } (va_Pc [.ref (a 0), .int p1, .int p2, .int p3, .ref o] (preO D y a o t ts f σ sz)) (va_Qi (fun r' u => r' = 3 ∧ u = (τ, f)) (posO D y a o) (AC (ao a o) 38 sz)) 1 6 (AC (ao a o) 38 sz) := by
  refine va_MetW (cc := cL_make) (maxL := 6) (ret := (some .int)) (hh := [(0, 12, 15, 19), (0, 12, 19, 25), (0, 12, 23, 13)]) (by decide) rfl ?_
  intro p e s m args below meth c s₁ B hml hv
  obtain ⟨rfl, ⟨hsz, hP, hK, hF⟩, hE⟩ := hv
  have hx := B.exec
  have hb := B.bytes
  have hr := B.returns
  have hts := atoms_spec (ws := zL_make) B.pre
  have hown : s.vm.findClass RL = some m.cls := findClass_of_methodNamed B.named
  have hlocks := B.notSynchronized
  subst hsz
  have hS : va_S (AC (ao a o) 38 s.heap.size) s.heap s.heap [] := va_S.rf
  have hl := lv_entry ([.ref (a 0), .int p1, .int p2, .int p3, .ref o]) (n := 6) (Nat.le_of_ble_eq_true rfl)
  rw [lg_entry_eq]
  generalize (lg_sl ([.ref (a 0), .int p1, .int p2, .int p3, .ref o]) ++ List.replicate (6 - (lg_sl ([.ref (a 0), .int p1, .int p2, .int p3, .ref o])).length) Slot.unset).toArray = ls at hl ⊢
  have hl : lv_has ls 6 [(0, .ref (a 0)), (1, .int p1), (2, .int p2), (3, .int p3), (4, .ref o)] := hl
  refine lv_aload hx hb dL_make_0 (lv_at hl 4 rfl) ?_
  refine lv_iconst (v := 0) hx hb dL_make_2 (by decide) ?_
  refine lv_aload_n hx hb dL_make_3 rfl (lv_at hl 0 rfl) ?_
  refine lv_iload_n hx hb dL_make_4 rfl (lv_at hl 1 rfl) ?_
  refine lv_iload_n hx hb dL_make_5 rfl (lv_at hl 2 rfl) ?_
  refine lv_iload_n hx hb dL_make_6 rfl (lv_at hl 3 rfl) ?_
  refine vx_calli (post := fun (_ : Int32) (_ : Unit) => False) (B := fun _ _ => True) (A1 := AC a 37 s.heap.size) (vx_runV (mc := 1) (ms := 6) (As := [.int p1, .int p2, .int p3]) (rest := [.int 0, .ref o]) ⟨hx, hb, hml, hown, hts⟩ (xX7_make l hfl D y a t ts (ao_I hI) (va_Qi (S := Unit) (fun _ _ => False) (fun _ _ => True) (AC a 37 s.heap.size)) _ σ τ p1 p2 p3 1 hm) (cwV 3 hts (gAV aM_L_21 aI_X7_make aS_X7_make aN_X7 aC_X7_make) rfl rfl rfl eX7_make ⟨Nat.le_of_ble_eq_true rfl, Nat.le_of_ble_eq_true rfl⟩) (preV_OE hK hP hF hE hS) rfl rfl hl.1 rfl (lv_room (Nat.le_of_ble_eq_true rfl)) dL_make_7 ⟨Nat.le_of_ble_eq_true rfl, Nat.le_of_ble_eq_true rfl⟩) hS (fun q _ h => AC_ao hS.1 q h) (AC_ao hS.1) (fun q _ h => AC_ao hS.1 q h) (fun E ce q9 u T H1 locs1 ht hvm hpx hBX hz hk1 hS hce hcv hcl => ?_) (fun _ _ _ _ _ _ _ h => h.elim)
  obtain ⟨rfl, hP1⟩ := hBX
  unfold posW at hP1
  rw [ht, hpx] at hP1
  have hP := wO_join hI hP hk1 hP1
  have htab := vx_table (x := yL_make) B (hts _ List.mem_cons_self)
  refine vx_catch hown [⟨0, 12, 15, 19⟩, ⟨0, 12, 19, 25⟩] ⟨0, 12, 23, 13⟩ [] (by rw [htab]; rfl) (List.forall_mem_cons.mpr ⟨Or.inr ⟨by decide, "java/lang/IllegalArgumentException", hts _ (List.mem_cons_of_mem _ xC2), hE.2.1.1⟩, List.forall_mem_cons.mpr ⟨Or.inr ⟨by decide, "java/lang/IndexOutOfBoundsException", hts _ (List.mem_cons_of_mem _ xC3), hE.2.1.2.1⟩, fun _ h => absurd h List.not_mem_nil⟩⟩) (by decide) (by decide) (hts _ (List.mem_cons_of_mem _ xC1)) (va_Nw.use rfl hE.1.1.1) hce hcv hcl ?_
  refine lv_astore (lv' := [(5, .ref q9), (0, .ref (a 0)), (1, .int p1), (2, .int p2), (3, .int p3), (4, .ref o)]) hx hb dL_make_23 hl (by decide) rfl (fun ls hl => ?_)
  refine lv_iconst (v := 3) hx hb dL_make_25 (by decide) ?_
  exact W.iret (v := 3) hx hb hr (fun T hT hW => ⟨⟨3, (τ, f), rfl, ⟨rfl, rfl⟩, by rw [posO, hT]; exact hP⟩, hS.F hT⟩) hS.2.2 dL_make_26
set_option maxHeartbeats 4000000 in
set_option maxRecDepth 100000 in
theorem xL_make_2 (l : Launch) (hfl : l.stackTraces = false) (D : va_G) (y : Nat → ClassId) (a : Nat → Nat) (o : Nat) (t ts : Nat → Nat) (hI : AI (ao a o) 38) (sz : Nat) (f : Nat → Int64) (σ τ : St) (p1 : Int32) (p2 : Int32) (p3 : Int32) (hm : tX7_make σ p1 p2 p3 = some (2, τ)) : Met l yL_make zL_make { frames := 7, cells := 1, slots := 6, locals := 122 } (va_Pc [.ref (a 0), .int p1, .int p2, .int p3, .ref o] (preO D y a o t ts f σ sz)) (va_Qi (fun r' u => r' = 1 ∧ u = (τ, f)) (posO D y a o) (AC (ao a o) 38 sz)) 1 6 (AC (ao a o) 38 sz) := by
  refine va_MetW (cc := cL_make) (maxL := 6) (ret := (some .int)) (hh := [(0, 12, 15, 19), (0, 12, 19, 25), (0, 12, 23, 13)]) (by decide) rfl ?_
  intro p e s m args below meth c s₁ B hml hv
  obtain ⟨rfl, ⟨hsz, hP, hK, hF⟩, hE⟩ := hv
  have hx := B.exec
  have hb := B.bytes
  have hr := B.returns
  have hts := atoms_spec (ws := zL_make) B.pre
  have hown : s.vm.findClass RL = some m.cls := findClass_of_methodNamed B.named
  have hlocks := B.notSynchronized
  subst hsz
  have hS : va_S (AC (ao a o) 38 s.heap.size) s.heap s.heap [] := va_S.rf
  have hl := lv_entry ([.ref (a 0), .int p1, .int p2, .int p3, .ref o]) (n := 6) (Nat.le_of_ble_eq_true rfl)
  rw [lg_entry_eq]
  generalize (lg_sl ([.ref (a 0), .int p1, .int p2, .int p3, .ref o]) ++ List.replicate (6 - (lg_sl ([.ref (a 0), .int p1, .int p2, .int p3, .ref o])).length) Slot.unset).toArray = ls at hl ⊢
  have hl : lv_has ls 6 [(0, .ref (a 0)), (1, .int p1), (2, .int p2), (3, .int p3), (4, .ref o)] := hl
  refine lv_aload hx hb dL_make_0 (lv_at hl 4 rfl) ?_
  refine lv_iconst (v := 0) hx hb dL_make_2 (by decide) ?_
  refine lv_aload_n hx hb dL_make_3 rfl (lv_at hl 0 rfl) ?_
  refine lv_iload_n hx hb dL_make_4 rfl (lv_at hl 1 rfl) ?_
  refine lv_iload_n hx hb dL_make_5 rfl (lv_at hl 2 rfl) ?_
  refine lv_iload_n hx hb dL_make_6 rfl (lv_at hl 3 rfl) ?_
  refine vx_calli (post := fun (_ : Int32) (_ : Unit) => False) (B := fun _ _ => True) (A1 := AC a 37 s.heap.size) (vx_runV (mc := 1) (ms := 6) (As := [.int p1, .int p2, .int p3]) (rest := [.int 0, .ref o]) ⟨hx, hb, hml, hown, hts⟩ (xX7_make l hfl D y a t ts (ao_I hI) (va_Qi (S := Unit) (fun _ _ => False) (fun _ _ => True) (AC a 37 s.heap.size)) _ σ τ p1 p2 p3 2 hm) (cwV 3 hts (gAV aM_L_21 aI_X7_make aS_X7_make aN_X7 aC_X7_make) rfl rfl rfl eX7_make ⟨Nat.le_of_ble_eq_true rfl, Nat.le_of_ble_eq_true rfl⟩) (preV_OE hK hP hF hE hS) rfl rfl hl.1 rfl (lv_room (Nat.le_of_ble_eq_true rfl)) dL_make_7 ⟨Nat.le_of_ble_eq_true rfl, Nat.le_of_ble_eq_true rfl⟩) hS (fun q _ h => AC_ao hS.1 q h) (AC_ao hS.1) (fun q _ h => AC_ao hS.1 q h) (fun E ce q9 u T H1 locs1 ht hvm hpx hBX hz hk1 hS hce hcv hcl => ?_) (fun _ _ _ _ _ _ _ h => h.elim)
  obtain ⟨rfl, hP1⟩ := hBX
  unfold posW at hP1
  rw [ht, hpx] at hP1
  have hP := wO_join hI hP hk1 hP1
  have htab := vx_table (x := yL_make) B (hts _ List.mem_cons_self)
  refine vx_catch hown [] ⟨0, 12, 15, 19⟩ [⟨0, 12, 19, 25⟩, ⟨0, 12, 23, 13⟩] (by rw [htab]; rfl) (fun _ h => absurd h List.not_mem_nil) (by decide) (by decide) (hts _ (List.mem_cons_of_mem _ xC2)) (va_Nw.use rfl hE.1.1.2.1) hce hcv hcl ?_
  refine lv_astore (lv' := [(5, .ref q9), (0, .ref (a 0)), (1, .int p1), (2, .int p2), (3, .int p3), (4, .ref o)]) hx hb dL_make_15 hl (by decide) rfl (fun ls hl => ?_)
  refine lv_iconst (v := 1) hx hb dL_make_17 (by decide) ?_
  exact W.iret (v := 1) hx hb hr (fun T hT hW => ⟨⟨1, (τ, f), rfl, ⟨rfl, rfl⟩, by rw [posO, hT]; exact hP⟩, hS.F hT⟩) hS.2.2 dL_make_18
set_option maxHeartbeats 4000000 in
set_option maxRecDepth 100000 in
theorem xL_make_3 (l : Launch) (hfl : l.stackTraces = false) (D : va_G) (y : Nat → ClassId) (a : Nat → Nat) (o : Nat) (t ts : Nat → Nat) (hI : AI (ao a o) 38) (sz : Nat) (f : Nat → Int64) (σ τ : St) (p1 : Int32) (p2 : Int32) (p3 : Int32) (hm : tX7_make σ p1 p2 p3 = some (3, τ)) : Met l yL_make zL_make { frames := 7, cells := 1, slots := 6, locals := 122 } (va_Pc [.ref (a 0), .int p1, .int p2, .int p3, .ref o] (preO D y a o t ts f σ sz)) (va_Qi (fun r' u => r' = 2 ∧ u = (τ, f)) (posO D y a o) (AC (ao a o) 38 sz)) 1 6 (AC (ao a o) 38 sz) := by
  refine va_MetW (cc := cL_make) (maxL := 6) (ret := (some .int)) (hh := [(0, 12, 15, 19), (0, 12, 19, 25), (0, 12, 23, 13)]) (by decide) rfl ?_
  intro p e s m args below meth c s₁ B hml hv
  obtain ⟨rfl, ⟨hsz, hP, hK, hF⟩, hE⟩ := hv
  have hx := B.exec
  have hb := B.bytes
  have hr := B.returns
  have hts := atoms_spec (ws := zL_make) B.pre
  have hown : s.vm.findClass RL = some m.cls := findClass_of_methodNamed B.named
  have hlocks := B.notSynchronized
  subst hsz
  have hS : va_S (AC (ao a o) 38 s.heap.size) s.heap s.heap [] := va_S.rf
  have hl := lv_entry ([.ref (a 0), .int p1, .int p2, .int p3, .ref o]) (n := 6) (Nat.le_of_ble_eq_true rfl)
  rw [lg_entry_eq]
  generalize (lg_sl ([.ref (a 0), .int p1, .int p2, .int p3, .ref o]) ++ List.replicate (6 - (lg_sl ([.ref (a 0), .int p1, .int p2, .int p3, .ref o])).length) Slot.unset).toArray = ls at hl ⊢
  have hl : lv_has ls 6 [(0, .ref (a 0)), (1, .int p1), (2, .int p2), (3, .int p3), (4, .ref o)] := hl
  refine lv_aload hx hb dL_make_0 (lv_at hl 4 rfl) ?_
  refine lv_iconst (v := 0) hx hb dL_make_2 (by decide) ?_
  refine lv_aload_n hx hb dL_make_3 rfl (lv_at hl 0 rfl) ?_
  refine lv_iload_n hx hb dL_make_4 rfl (lv_at hl 1 rfl) ?_
  refine lv_iload_n hx hb dL_make_5 rfl (lv_at hl 2 rfl) ?_
  refine lv_iload_n hx hb dL_make_6 rfl (lv_at hl 3 rfl) ?_
  refine vx_calli (post := fun (_ : Int32) (_ : Unit) => False) (B := fun _ _ => True) (A1 := AC a 37 s.heap.size) (vx_runV (mc := 1) (ms := 6) (As := [.int p1, .int p2, .int p3]) (rest := [.int 0, .ref o]) ⟨hx, hb, hml, hown, hts⟩ (xX7_make l hfl D y a t ts (ao_I hI) (va_Qi (S := Unit) (fun _ _ => False) (fun _ _ => True) (AC a 37 s.heap.size)) _ σ τ p1 p2 p3 3 hm) (cwV 3 hts (gAV aM_L_21 aI_X7_make aS_X7_make aN_X7 aC_X7_make) rfl rfl rfl eX7_make ⟨Nat.le_of_ble_eq_true rfl, Nat.le_of_ble_eq_true rfl⟩) (preV_OE hK hP hF hE hS) rfl rfl hl.1 rfl (lv_room (Nat.le_of_ble_eq_true rfl)) dL_make_7 ⟨Nat.le_of_ble_eq_true rfl, Nat.le_of_ble_eq_true rfl⟩) hS (fun q _ h => AC_ao hS.1 q h) (AC_ao hS.1) (fun q _ h => AC_ao hS.1 q h) (fun E ce q9 u T H1 locs1 ht hvm hpx hBX hz hk1 hS hce hcv hcl => ?_) (fun _ _ _ _ _ _ _ h => h.elim)
  obtain ⟨rfl, hP1⟩ := hBX
  unfold posW at hP1
  rw [ht, hpx] at hP1
  have hP := wO_join hI hP hk1 hP1
  have htab := vx_table (x := yL_make) B (hts _ List.mem_cons_self)
  refine vx_catch hown [⟨0, 12, 15, 19⟩] ⟨0, 12, 19, 25⟩ [⟨0, 12, 23, 13⟩] (by rw [htab]; rfl) (List.forall_mem_cons.mpr ⟨Or.inr ⟨by decide, "java/lang/IllegalArgumentException", hts _ (List.mem_cons_of_mem _ xC2), hE.2.1.2.2.2.2.2⟩, fun _ h => absurd h List.not_mem_nil⟩) (by decide) (by decide) (hts _ (List.mem_cons_of_mem _ xC3)) (va_Nw.use rfl hE.1.1.2.2) hce hcv hcl ?_
  refine lv_astore (lv' := [(5, .ref q9), (0, .ref (a 0)), (1, .int p1), (2, .int p2), (3, .int p3), (4, .ref o)]) hx hb dL_make_19 hl (by decide) rfl (fun ls hl => ?_)
  refine lv_iconst (v := 2) hx hb dL_make_21 (by decide) ?_
  exact W.iret (v := 2) hx hb hr (fun T hT hW => ⟨⟨2, (τ, f), rfl, ⟨rfl, rfl⟩, by rw [posO, hT]; exact hP⟩, hS.F hT⟩) hS.2.2 dL_make_22
theorem eL_formula : yL_formula.cls ≠ "java/lang/invoke/MethodHandle" ∧ yL_formula.cls ≠ "java/lang/invoke/VarHandle" ∧ (parseMethodDescriptor yL_formula.desc).map (fun d => d.parameters.length) = some 4 := by decide +kernel
set_option maxHeartbeats 4000000 in
set_option maxRecDepth 100000 in
theorem kL_formula (l : Launch) (D : va_G) (y : Nat → ClassId) (a : Nat → Nat) (o : Nat) (t ts : Nat → Nat) (hI : AI (ao a o) 38) (sz : Nat) (f : Nat → Int64) (σ : St) (p1 : Int32) (p2 : Int32) (r : Int32) (hm : mX7_formula σ p1 p2 = some r) : Met l yL_formula zL_formula { frames := 7, cells := 1, slots := 6, locals := 120 } (va_Pc [.ref (a 0), .int p1, .int p2, .ref o] (preO D y a o t ts f σ sz)) (va_Qi (fun r' u => r' = 0 ∧ u = (σ, vp_updL f 0 r.toInt64)) (posO D y a o) (AC (ao a o) 38 sz)) 1 6 (AC (ao a o) 38 sz) := by
  refine va_MetW (cc := cL_formula) (maxL := 5) (ret := (some .int)) (hh := [(0, 10, 13, 25)]) (by decide) rfl ?_
  intro p e s m args below meth c s₁ B hml hv
  obtain ⟨rfl, ⟨hsz, hP, hK, hF⟩, hE⟩ := hv
  have hx := B.exec
  have hb := B.bytes
  have hr := B.returns
  have hts := atoms_spec (ws := zL_formula) B.pre
  have hown : s.vm.findClass RL = some m.cls := findClass_of_methodNamed B.named
  have hlocks := B.notSynchronized
  subst hsz
  have hS : va_S (AC (ao a o) 38 s.heap.size) s.heap s.heap [] := va_S.rf
  have hl := lv_entry ([.ref (a 0), .int p1, .int p2, .ref o]) (n := 5) (Nat.le_of_ble_eq_true rfl)
  rw [lg_entry_eq]
  generalize (lg_sl ([.ref (a 0), .int p1, .int p2, .ref o]) ++ List.replicate (5 - (lg_sl ([.ref (a 0), .int p1, .int p2, .ref o])).length) Slot.unset).toArray = ls at hl ⊢
  have hl : lv_has ls 5 [(0, .ref (a 0)), (1, .int p1), (2, .int p2), (3, .ref o)] := hl
  refine lv_aload_n hx hb dL_formula_0 rfl (lv_at hl 3 rfl) ?_
  refine lv_iconst (v := 0) hx hb dL_formula_1 (by decide) ?_
  refine lv_aload_n hx hb dL_formula_2 rfl (lv_at hl 0 rfl) ?_
  refine lv_iload_n hx hb dL_formula_3 rfl (lv_at hl 1 rfl) ?_
  refine lv_iload_n hx hb dL_formula_4 rfl (lv_at hl 2 rfl) ?_
  refine calV_i (As := [.int p1, .int p2]) (rest := [.int 0, .ref o]) ⟨hx, hb, hml, hown, hts⟩ (kX7_formula l D y a t (ao_I hI) _ σ p1 p2 r hm) (cwV 2 hts (gAV aM_L_27 aI_X7_formula aS_X7_formula aN_X7 aC_X7_formula) rfl rfl rfl eX7_formula ⟨Nat.le_of_ble_eq_true rfl, Nat.le_of_ble_eq_true rfl⟩) (preV_O hK hP hF hS) rfl hl.1 rfl (Nat.le_of_ble_eq_true rfl) dL_formula_5 ⟨Nat.zero_le _, Nat.zero_le _⟩ hS (AC_ao hS.1) (fun H locs hP1 hS hk1 => ?_)
  have hP := wO_join hI hP hk1 hP1
  refine lv_i2l (v := r.toInt64) hx hb dL_formula_8 rfl ?_
  refine stO hx hb hK hP hI hS dL_formula_9 (fun H locs hP hS => ?_)
  refine lv_goto (tgt := 17) hx hb dL_formula_10 (by decide) ?_
  refine lv_iconst (v := 0) hx hb dL_formula_17 (by decide) ?_
  refine W.widen (k := 1) (n := 6) (by decide) (by decide) ?_
  exact W.iret (v := 0) hx hb hr (fun T hT hW => ⟨⟨0, (σ, vp_updL f 0 r.toInt64), rfl, ⟨rfl, rfl⟩, by rw [posO, hT]; exact hP⟩, hS.F hT⟩) hS.2.2 dL_formula_18
set_option maxHeartbeats 4000000 in
set_option maxRecDepth 100000 in
theorem xL_formula_3 (l : Launch) (hfl : l.stackTraces = false) (D : va_G) (y : Nat → ClassId) (a : Nat → Nat) (o : Nat) (t ts : Nat → Nat) (hI : AI (ao a o) 38) (sz : Nat) (f : Nat → Int64) (σ : St) (p1 : Int32) (p2 : Int32) (hm : tX7_formula σ p1 p2 = some 3) : Met l yL_formula zL_formula { frames := 7, cells := 1, slots := 6, locals := 120 } (va_Pc [.ref (a 0), .int p1, .int p2, .ref o] (preO D y a o t ts f σ sz)) (va_Qi (fun r' u => r' = 1 ∧ u = (σ, f)) (posO D y a o) (AC (ao a o) 38 sz)) 1 6 (AC (ao a o) 38 sz) := by
  refine va_MetW (cc := cL_formula) (maxL := 5) (ret := (some .int)) (hh := [(0, 10, 13, 25)]) (by decide) rfl ?_
  intro p e s m args below meth c s₁ B hml hv
  obtain ⟨rfl, ⟨hsz, hP, hK, hF⟩, hE⟩ := hv
  have hx := B.exec
  have hb := B.bytes
  have hr := B.returns
  have hts := atoms_spec (ws := zL_formula) B.pre
  have hown : s.vm.findClass RL = some m.cls := findClass_of_methodNamed B.named
  have hlocks := B.notSynchronized
  subst hsz
  have hS : va_S (AC (ao a o) 38 s.heap.size) s.heap s.heap [] := va_S.rf
  have hl := lv_entry ([.ref (a 0), .int p1, .int p2, .ref o]) (n := 5) (Nat.le_of_ble_eq_true rfl)
  rw [lg_entry_eq]
  generalize (lg_sl ([.ref (a 0), .int p1, .int p2, .ref o]) ++ List.replicate (5 - (lg_sl ([.ref (a 0), .int p1, .int p2, .ref o])).length) Slot.unset).toArray = ls at hl ⊢
  have hl : lv_has ls 5 [(0, .ref (a 0)), (1, .int p1), (2, .int p2), (3, .ref o)] := hl
  refine lv_aload_n hx hb dL_formula_0 rfl (lv_at hl 3 rfl) ?_
  refine lv_iconst (v := 0) hx hb dL_formula_1 (by decide) ?_
  refine lv_aload_n hx hb dL_formula_2 rfl (lv_at hl 0 rfl) ?_
  refine lv_iload_n hx hb dL_formula_3 rfl (lv_at hl 1 rfl) ?_
  refine lv_iload_n hx hb dL_formula_4 rfl (lv_at hl 2 rfl) ?_
  refine vx_calli (post := fun (_ : Int32) (_ : Unit) => False) (B := fun _ _ => True) (A1 := AC a 37 s.heap.size) (vx_runV (mc := 1) (ms := 6) (As := [.int p1, .int p2]) (rest := [.int 0, .ref o]) ⟨hx, hb, hml, hown, hts⟩ (xX7_formula l hfl D y a t ts (ao_I hI) (va_Qi (S := Unit) (fun _ _ => False) (fun _ _ => True) (AC a 37 s.heap.size)) _ σ p1 p2 3 hm) (cwV 2 hts (gAV aM_L_27 aI_X7_formula aS_X7_formula aN_X7 aC_X7_formula) rfl rfl rfl eX7_formula ⟨Nat.le_of_ble_eq_true rfl, Nat.le_of_ble_eq_true rfl⟩) (preV_OE hK hP hF hE hS) rfl rfl hl.1 rfl (lv_room (Nat.le_of_ble_eq_true rfl)) dL_formula_5 ⟨Nat.le_of_ble_eq_true rfl, Nat.le_of_ble_eq_true rfl⟩) hS (fun q _ h => AC_ao hS.1 q h) (AC_ao hS.1) (fun q _ h => AC_ao hS.1 q h) (fun E ce q9 u T H1 locs1 ht hvm hpx hBX hz hk1 hS hce hcv hcl => ?_) (fun _ _ _ _ _ _ _ h => h.elim)
  obtain ⟨rfl, hP1⟩ := hBX
  unfold posW at hP1
  rw [ht, hpx] at hP1
  have hP := wO_join hI hP hk1 hP1
  have htab := vx_table (x := yL_formula) B (hts _ List.mem_cons_self)
  refine vx_catch hown [] ⟨0, 10, 13, 25⟩ [] (by rw [htab]; rfl) (fun _ h => absurd h List.not_mem_nil) (by decide) (by decide) (hts _ (List.mem_cons_of_mem _ xC3)) (va_Nw.use rfl hE.1.1.2.2) hce hcv hcl ?_
  refine lv_astore (lv' := [(4, .ref q9), (0, .ref (a 0)), (1, .int p1), (2, .int p2), (3, .ref o)]) hx hb dL_formula_13 hl (by decide) rfl (fun ls hl => ?_)
  refine lv_iconst (v := 1) hx hb dL_formula_15 (by decide) ?_
  exact W.iret (v := 1) hx hb hr (fun T hT hW => ⟨⟨1, (σ, f), rfl, ⟨rfl, rfl⟩, by rw [posO, hT]; exact hP⟩, hS.F hT⟩) hS.2.2 dL_formula_16
theorem eL_isTrue : yL_isTrue.cls ≠ "java/lang/invoke/MethodHandle" ∧ yL_isTrue.cls ≠ "java/lang/invoke/VarHandle" ∧ (parseMethodDescriptor yL_isTrue.desc).map (fun d => d.parameters.length) = some 4 := by decide +kernel
set_option maxHeartbeats 4000000 in
set_option maxRecDepth 100000 in
theorem kL_isTrue (l : Launch) (D : va_G) (y : Nat → ClassId) (a : Nat → Nat) (o : Nat) (t ts : Nat → Nat) (hI : AI (ao a o) 38) (sz : Nat) (f : Nat → Int64) (σ : St) (p1 : Int32) (p2 : Int32) (r : Int32) (hm : mX7_isTrue σ p1 p2 = some r) : Met l yL_isTrue zL_isTrue { frames := 7, cells := 1, slots := 6, locals := 120 } (va_Pc [.ref (a 0), .int p1, .int p2, .ref o] (preO D y a o t ts f σ sz)) (va_Qi (fun r' u => r' = 0 ∧ u = (σ, vp_updL f 0 (if r = 0 then 0 else 1))) (posO D y a o) (AC (ao a o) 38 sz)) 1 6 (AC (ao a o) 38 sz) := by
  refine va_MetW (cc := cL_isTrue) (maxL := 5) (ret := (some .int)) (hh := [(0, 17, 20, 25), (0, 17, 24, 19)]) (by decide) rfl ?_
  intro p e s m args below meth c s₁ B hml hv
  obtain ⟨rfl, ⟨hsz, hP, hK, hF⟩, hE⟩ := hv
  have hx := B.exec
  have hb := B.bytes
  have hr := B.returns
  have hts := atoms_spec (ws := zL_isTrue) B.pre
  have hown : s.vm.findClass RL = some m.cls := findClass_of_methodNamed B.named
  have hlocks := B.notSynchronized
  subst hsz
  have hS : va_S (AC (ao a o) 38 s.heap.size) s.heap s.heap [] := va_S.rf
  have hl := lv_entry ([.ref (a 0), .int p1, .int p2, .ref o]) (n := 5) (Nat.le_of_ble_eq_true rfl)
  rw [lg_entry_eq]
  generalize (lg_sl ([.ref (a 0), .int p1, .int p2, .ref o]) ++ List.replicate (5 - (lg_sl ([.ref (a 0), .int p1, .int p2, .ref o])).length) Slot.unset).toArray = ls at hl ⊢
  have hl : lv_has ls 5 [(0, .ref (a 0)), (1, .int p1), (2, .int p2), (3, .ref o)] := hl
  refine lv_aload_n hx hb dL_isTrue_0 rfl (lv_at hl 3 rfl) ?_
  refine lv_iconst (v := 0) hx hb dL_isTrue_1 (by decide) ?_
  refine lv_aload_n hx hb dL_isTrue_2 rfl (lv_at hl 0 rfl) ?_
  refine lv_iload_n hx hb dL_isTrue_3 rfl (lv_at hl 1 rfl) ?_
  refine lv_iload_n hx hb dL_isTrue_4 rfl (lv_at hl 2 rfl) ?_
  refine calV_i (As := [.int p1, .int p2]) (rest := [.int 0, .ref o]) ⟨hx, hb, hml, hown, hts⟩ (kX7_isTrue l D y a t (ao_I hI) _ σ p1 p2 r hm) (cwV 2 hts (gAV aM_L_31 aI_X7_isTrue aS_X7_isTrue aN_X7 aC_X7_isTrue) rfl rfl rfl eX7_isTrue ⟨Nat.le_of_ble_eq_true rfl, Nat.le_of_ble_eq_true rfl⟩) (preV_O hK hP hF hS) rfl hl.1 rfl (Nat.le_of_ble_eq_true rfl) dL_isTrue_5 ⟨Nat.zero_le _, Nat.zero_le _⟩ hS (AC_ao hS.1) (fun H locs hP1 hS hk1 => ?_)
  have hP := wO_join hI hP hk1 hP1
  refine lv_if_eq (tgt := 15) hx hb dL_isTrue_8 (by decide) (fun c1 => ?_) (fun c1 => ?_)
  · have e1 : (if r = 0 then (0 : Int64) else 1) = 0 := if_pos c1
    rw [e1]
    refine lv_lconst (v := 0) hx hb dL_isTrue_15 (by decide) ?_
    refine stO hx hb hK hP hI hS dL_isTrue_16 (fun H locs hP hS => ?_)
    refine lv_goto (tgt := 28) hx hb dL_isTrue_17 (by decide) ?_
    refine lv_iconst (v := 0) hx hb dL_isTrue_28 (by decide) ?_
    refine W.widen (k := 1) (n := 6) (by decide) (by decide) ?_
    exact W.iret (v := 0) hx hb hr (fun T hT hW => ⟨⟨0, (σ, vp_updL f 0 0), rfl, ⟨rfl, rfl⟩, by rw [posO, hT]; exact hP⟩, hS.F hT⟩) hS.2.2 dL_isTrue_29
  · have e1 : (if r = 0 then (0 : Int64) else 1) = 1 := if_neg c1
    rw [e1]
    refine lv_lconst (v := 1) hx hb dL_isTrue_11 (by decide) ?_
    refine lv_goto (tgt := 16) hx hb dL_isTrue_12 (by decide) ?_
    refine stO hx hb hK hP hI hS dL_isTrue_16 (fun H locs hP hS => ?_)
    refine lv_goto (tgt := 28) hx hb dL_isTrue_17 (by decide) ?_
    refine lv_iconst (v := 0) hx hb dL_isTrue_28 (by decide) ?_
    refine W.widen (k := 1) (n := 6) (by decide) (by decide) ?_
    exact W.iret (v := 0) hx hb hr (fun T hT hW => ⟨⟨0, (σ, vp_updL f 0 1), rfl, ⟨rfl, rfl⟩, by rw [posO, hT]; exact hP⟩, hS.F hT⟩) hS.2.2 dL_isTrue_29
set_option maxHeartbeats 4000000 in
set_option maxRecDepth 100000 in
theorem xL_isTrue_2 (l : Launch) (hfl : l.stackTraces = false) (D : va_G) (y : Nat → ClassId) (a : Nat → Nat) (o : Nat) (t ts : Nat → Nat) (hI : AI (ao a o) 38) (sz : Nat) (f : Nat → Int64) (σ : St) (p1 : Int32) (p2 : Int32) (hm : tX7_isTrue σ p1 p2 = some 2) : Met l yL_isTrue zL_isTrue { frames := 7, cells := 1, slots := 6, locals := 120 } (va_Pc [.ref (a 0), .int p1, .int p2, .ref o] (preO D y a o t ts f σ sz)) (va_Qi (fun r' u => r' = 2 ∧ u = (σ, f)) (posO D y a o) (AC (ao a o) 38 sz)) 1 6 (AC (ao a o) 38 sz) := by
  refine va_MetW (cc := cL_isTrue) (maxL := 5) (ret := (some .int)) (hh := [(0, 17, 20, 25), (0, 17, 24, 19)]) (by decide) rfl ?_
  intro p e s m args below meth c s₁ B hml hv
  obtain ⟨rfl, ⟨hsz, hP, hK, hF⟩, hE⟩ := hv
  have hx := B.exec
  have hb := B.bytes
  have hr := B.returns
  have hts := atoms_spec (ws := zL_isTrue) B.pre
  have hown : s.vm.findClass RL = some m.cls := findClass_of_methodNamed B.named
  have hlocks := B.notSynchronized
  subst hsz
  have hS : va_S (AC (ao a o) 38 s.heap.size) s.heap s.heap [] := va_S.rf
  have hl := lv_entry ([.ref (a 0), .int p1, .int p2, .ref o]) (n := 5) (Nat.le_of_ble_eq_true rfl)
  rw [lg_entry_eq]
  generalize (lg_sl ([.ref (a 0), .int p1, .int p2, .ref o]) ++ List.replicate (5 - (lg_sl ([.ref (a 0), .int p1, .int p2, .ref o])).length) Slot.unset).toArray = ls at hl ⊢
  have hl : lv_has ls 5 [(0, .ref (a 0)), (1, .int p1), (2, .int p2), (3, .ref o)] := hl
  refine lv_aload_n hx hb dL_isTrue_0 rfl (lv_at hl 3 rfl) ?_
  refine lv_iconst (v := 0) hx hb dL_isTrue_1 (by decide) ?_
  refine lv_aload_n hx hb dL_isTrue_2 rfl (lv_at hl 0 rfl) ?_
  refine lv_iload_n hx hb dL_isTrue_3 rfl (lv_at hl 1 rfl) ?_
  refine lv_iload_n hx hb dL_isTrue_4 rfl (lv_at hl 2 rfl) ?_
  refine vx_calli (post := fun (_ : Int32) (_ : Unit) => False) (B := fun _ _ => True) (A1 := AC a 37 s.heap.size) (vx_runV (mc := 1) (ms := 6) (As := [.int p1, .int p2]) (rest := [.int 0, .ref o]) ⟨hx, hb, hml, hown, hts⟩ (xX7_isTrue l hfl D y a t ts (ao_I hI) (va_Qi (S := Unit) (fun _ _ => False) (fun _ _ => True) (AC a 37 s.heap.size)) _ σ p1 p2 2 hm) (cwV 2 hts (gAV aM_L_31 aI_X7_isTrue aS_X7_isTrue aN_X7 aC_X7_isTrue) rfl rfl rfl eX7_isTrue ⟨Nat.le_of_ble_eq_true rfl, Nat.le_of_ble_eq_true rfl⟩) (preV_OE hK hP hF hE hS) rfl rfl hl.1 rfl (lv_room (Nat.le_of_ble_eq_true rfl)) dL_isTrue_5 ⟨Nat.le_of_ble_eq_true rfl, Nat.le_of_ble_eq_true rfl⟩) hS (fun q _ h => AC_ao hS.1 q h) (AC_ao hS.1) (fun q _ h => AC_ao hS.1 q h) (fun E ce q9 u T H1 locs1 ht hvm hpx hBX hz hk1 hS hce hcv hcl => ?_) (fun _ _ _ _ _ _ _ h => h.elim)
  obtain ⟨rfl, hP1⟩ := hBX
  unfold posW at hP1
  rw [ht, hpx] at hP1
  have hP := wO_join hI hP hk1 hP1
  have htab := vx_table (x := yL_isTrue) B (hts _ List.mem_cons_self)
  refine vx_catch hown [⟨0, 17, 20, 25⟩] ⟨0, 17, 24, 19⟩ [] (by rw [htab]; rfl) (List.forall_mem_cons.mpr ⟨Or.inr ⟨by decide, "java/lang/IndexOutOfBoundsException", hts _ (List.mem_cons_of_mem _ xC3), hE.2.1.2.2.2.1⟩, fun _ h => absurd h List.not_mem_nil⟩) (by decide) (by decide) (hts _ (List.mem_cons_of_mem _ xC2)) (va_Nw.use rfl hE.1.1.2.1) hce hcv hcl ?_
  refine lv_astore (lv' := [(4, .ref q9), (0, .ref (a 0)), (1, .int p1), (2, .int p2), (3, .ref o)]) hx hb dL_isTrue_24 hl (by decide) rfl (fun ls hl => ?_)
  refine lv_iconst (v := 2) hx hb dL_isTrue_26 (by decide) ?_
  exact W.iret (v := 2) hx hb hr (fun T hT hW => ⟨⟨2, (σ, f), rfl, ⟨rfl, rfl⟩, by rw [posO, hT]; exact hP⟩, hS.F hT⟩) hS.2.2 dL_isTrue_27
set_option maxHeartbeats 4000000 in
set_option maxRecDepth 100000 in
theorem xL_isTrue_3 (l : Launch) (hfl : l.stackTraces = false) (D : va_G) (y : Nat → ClassId) (a : Nat → Nat) (o : Nat) (t ts : Nat → Nat) (hI : AI (ao a o) 38) (sz : Nat) (f : Nat → Int64) (σ : St) (p1 : Int32) (p2 : Int32) (hm : tX7_isTrue σ p1 p2 = some 3) : Met l yL_isTrue zL_isTrue { frames := 7, cells := 1, slots := 6, locals := 120 } (va_Pc [.ref (a 0), .int p1, .int p2, .ref o] (preO D y a o t ts f σ sz)) (va_Qi (fun r' u => r' = 1 ∧ u = (σ, f)) (posO D y a o) (AC (ao a o) 38 sz)) 1 6 (AC (ao a o) 38 sz) := by
  refine va_MetW (cc := cL_isTrue) (maxL := 5) (ret := (some .int)) (hh := [(0, 17, 20, 25), (0, 17, 24, 19)]) (by decide) rfl ?_
  intro p e s m args below meth c s₁ B hml hv
  obtain ⟨rfl, ⟨hsz, hP, hK, hF⟩, hE⟩ := hv
  have hx := B.exec
  have hb := B.bytes
  have hr := B.returns
  have hts := atoms_spec (ws := zL_isTrue) B.pre
  have hown : s.vm.findClass RL = some m.cls := findClass_of_methodNamed B.named
  have hlocks := B.notSynchronized
  subst hsz
  have hS : va_S (AC (ao a o) 38 s.heap.size) s.heap s.heap [] := va_S.rf
  have hl := lv_entry ([.ref (a 0), .int p1, .int p2, .ref o]) (n := 5) (Nat.le_of_ble_eq_true rfl)
  rw [lg_entry_eq]
  generalize (lg_sl ([.ref (a 0), .int p1, .int p2, .ref o]) ++ List.replicate (5 - (lg_sl ([.ref (a 0), .int p1, .int p2, .ref o])).length) Slot.unset).toArray = ls at hl ⊢
  have hl : lv_has ls 5 [(0, .ref (a 0)), (1, .int p1), (2, .int p2), (3, .ref o)] := hl
  refine lv_aload_n hx hb dL_isTrue_0 rfl (lv_at hl 3 rfl) ?_
  refine lv_iconst (v := 0) hx hb dL_isTrue_1 (by decide) ?_
  refine lv_aload_n hx hb dL_isTrue_2 rfl (lv_at hl 0 rfl) ?_
  refine lv_iload_n hx hb dL_isTrue_3 rfl (lv_at hl 1 rfl) ?_
  refine lv_iload_n hx hb dL_isTrue_4 rfl (lv_at hl 2 rfl) ?_
  refine vx_calli (post := fun (_ : Int32) (_ : Unit) => False) (B := fun _ _ => True) (A1 := AC a 37 s.heap.size) (vx_runV (mc := 1) (ms := 6) (As := [.int p1, .int p2]) (rest := [.int 0, .ref o]) ⟨hx, hb, hml, hown, hts⟩ (xX7_isTrue l hfl D y a t ts (ao_I hI) (va_Qi (S := Unit) (fun _ _ => False) (fun _ _ => True) (AC a 37 s.heap.size)) _ σ p1 p2 3 hm) (cwV 2 hts (gAV aM_L_31 aI_X7_isTrue aS_X7_isTrue aN_X7 aC_X7_isTrue) rfl rfl rfl eX7_isTrue ⟨Nat.le_of_ble_eq_true rfl, Nat.le_of_ble_eq_true rfl⟩) (preV_OE hK hP hF hE hS) rfl rfl hl.1 rfl (lv_room (Nat.le_of_ble_eq_true rfl)) dL_isTrue_5 ⟨Nat.le_of_ble_eq_true rfl, Nat.le_of_ble_eq_true rfl⟩) hS (fun q _ h => AC_ao hS.1 q h) (AC_ao hS.1) (fun q _ h => AC_ao hS.1 q h) (fun E ce q9 u T H1 locs1 ht hvm hpx hBX hz hk1 hS hce hcv hcl => ?_) (fun _ _ _ _ _ _ _ h => h.elim)
  obtain ⟨rfl, hP1⟩ := hBX
  unfold posW at hP1
  rw [ht, hpx] at hP1
  have hP := wO_join hI hP hk1 hP1
  have htab := vx_table (x := yL_isTrue) B (hts _ List.mem_cons_self)
  refine vx_catch hown [] ⟨0, 17, 20, 25⟩ [⟨0, 17, 24, 19⟩] (by rw [htab]; rfl) (fun _ h => absurd h List.not_mem_nil) (by decide) (by decide) (hts _ (List.mem_cons_of_mem _ xC3)) (va_Nw.use rfl hE.1.1.2.2) hce hcv hcl ?_
  refine lv_astore (lv' := [(4, .ref q9), (0, .ref (a 0)), (1, .int p1), (2, .int p2), (3, .ref o)]) hx hb dL_isTrue_20 hl (by decide) rfl (fun ls hl => ?_)
  refine lv_iconst (v := 1) hx hb dL_isTrue_22 (by decide) ?_
  exact W.iret (v := 1) hx hb hr (fun T hT hW => ⟨⟨1, (σ, f), rfl, ⟨rfl, rfl⟩, by rw [posO, hT]; exact hP⟩, hS.F hT⟩) hS.2.2 dL_isTrue_23
theorem eL_write : yL_write.cls ≠ "java/lang/invoke/MethodHandle" ∧ yL_write.cls ≠ "java/lang/invoke/VarHandle" ∧ (parseMethodDescriptor yL_write.desc).map (fun d => d.parameters.length) = some 3 := by decide +kernel
set_option maxHeartbeats 4000000 in
set_option maxRecDepth 100000 in
theorem kL_write (l : Launch) (D : va_G) (y : Nat → ClassId) (a : Nat → Nat) (o : Nat) (t ts : Nat → Nat) (hI : AI (ao a o) 38) (sz : Nat) (f : Nat → Int64) (σ τ : St) (p1 : Int32) (r : Int32) (hm : mX7_write σ p1 = some (r, τ)) : Met l yL_write zL_write { frames := 7, cells := 1, slots := 6, locals := 119 } (va_Pc [.ref (a 0), .int p1, .ref o] (preO D y a o t ts f σ sz)) (va_Qi (fun r' u => r' = 0 ∧ u = (τ, vp_updL f 0 r.toInt64)) (posO D y a o) (AC (ao a o) 38 sz)) 1 6 (AC (ao a o) 38 sz) := by
  refine va_MetW (cc := cL_write) (maxL := 4) (ret := (some .int)) (hh := [(0, 9, 12, 25), (0, 9, 15, 13)]) (by decide) rfl ?_
  intro p e s m args below meth c s₁ B hml hv
  obtain ⟨rfl, ⟨hsz, hP, hK, hF⟩, hE⟩ := hv
  have hx := B.exec
  have hb := B.bytes
  have hr := B.returns
  have hts := atoms_spec (ws := zL_write) B.pre
  have hown : s.vm.findClass RL = some m.cls := findClass_of_methodNamed B.named
  have hlocks := B.notSynchronized
  subst hsz
  have hS : va_S (AC (ao a o) 38 s.heap.size) s.heap s.heap [] := va_S.rf
  have hl := lv_entry ([.ref (a 0), .int p1, .ref o]) (n := 4) (Nat.le_of_ble_eq_true rfl)
  rw [lg_entry_eq]
  generalize (lg_sl ([.ref (a 0), .int p1, .ref o]) ++ List.replicate (4 - (lg_sl ([.ref (a 0), .int p1, .ref o])).length) Slot.unset).toArray = ls at hl ⊢
  have hl : lv_has ls 4 [(0, .ref (a 0)), (1, .int p1), (2, .ref o)] := hl
  refine lv_aload_n hx hb dL_write_0 rfl (lv_at hl 2 rfl) ?_
  refine lv_iconst (v := 0) hx hb dL_write_1 (by decide) ?_
  refine lv_aload_n hx hb dL_write_2 rfl (lv_at hl 0 rfl) ?_
  refine lv_iload_n hx hb dL_write_3 rfl (lv_at hl 1 rfl) ?_
  refine calV_i (As := [.int p1]) (rest := [.int 0, .ref o]) ⟨hx, hb, hml, hown, hts⟩ (kX7_write l D y a t (ao_I hI) _ σ τ p1 r hm) (cwV 1 hts (gAV aM_L_35 aI_X7_write aS_X7_write aN_X7 aC_X7_write) rfl rfl rfl eX7_write ⟨Nat.le_of_ble_eq_true rfl, Nat.le_of_ble_eq_true rfl⟩) (preV_O hK hP hF hS) rfl hl.1 rfl (Nat.le_of_ble_eq_true rfl) dL_write_4 ⟨Nat.zero_le _, Nat.zero_le _⟩ hS (AC_ao hS.1) (fun H locs hP1 hS hk1 => ?_)
  have hP := wO_join hI hP hk1 hP1
  refine lv_i2l (v := r.toInt64) hx hb dL_write_7 rfl ?_
  refine stO hx hb hK hP hI hS dL_write_8 (fun H locs hP hS => ?_)
  refine lv_goto (tgt := 18) hx hb dL_write_9 (by decide) ?_
  refine lv_iconst (v := 0) hx hb dL_write_18 (by decide) ?_
  refine W.widen (k := 1) (n := 6) (by decide) (by decide) ?_
  exact W.iret (v := 0) hx hb hr (fun T hT hW => ⟨⟨0, (τ, vp_updL f 0 r.toInt64), rfl, ⟨rfl, rfl⟩, by rw [posO, hT]; exact hP⟩, hS.F hT⟩) hS.2.2 dL_write_19
set_option maxHeartbeats 4000000 in
set_option maxRecDepth 100000 in
theorem xL_write_1 (l : Launch) (hfl : l.stackTraces = false) (D : va_G) (y : Nat → ClassId) (a : Nat → Nat) (o : Nat) (t ts : Nat → Nat) (hI : AI (ao a o) 38) (sz : Nat) (f : Nat → Int64) (σ τ : St) (p1 : Int32) (hm : tX7_write σ p1 = some (1, τ)) : Met l yL_write zL_write { frames := 7, cells := 1, slots := 6, locals := 119 } (va_Pc [.ref (a 0), .int p1, .ref o] (preO D y a o t ts f σ sz)) (va_Qi (fun r' u => r' = 2 ∧ u = (τ, f)) (posO D y a o) (AC (ao a o) 38 sz)) 1 6 (AC (ao a o) 38 sz) := by
  refine va_MetW (cc := cL_write) (maxL := 4) (ret := (some .int)) (hh := [(0, 9, 12, 25), (0, 9, 15, 13)]) (by decide) rfl ?_
  intro p e s m args below meth c s₁ B hml hv
  obtain ⟨rfl, ⟨hsz, hP, hK, hF⟩, hE⟩ := hv
  have hx := B.exec
  have hb := B.bytes
  have hr := B.returns
  have hts := atoms_spec (ws := zL_write) B.pre
  have hown : s.vm.findClass RL = some m.cls := findClass_of_methodNamed B.named
  have hlocks := B.notSynchronized
  subst hsz
  have hS : va_S (AC (ao a o) 38 s.heap.size) s.heap s.heap [] := va_S.rf
  have hl := lv_entry ([.ref (a 0), .int p1, .ref o]) (n := 4) (Nat.le_of_ble_eq_true rfl)
  rw [lg_entry_eq]
  generalize (lg_sl ([.ref (a 0), .int p1, .ref o]) ++ List.replicate (4 - (lg_sl ([.ref (a 0), .int p1, .ref o])).length) Slot.unset).toArray = ls at hl ⊢
  have hl : lv_has ls 4 [(0, .ref (a 0)), (1, .int p1), (2, .ref o)] := hl
  refine lv_aload_n hx hb dL_write_0 rfl (lv_at hl 2 rfl) ?_
  refine lv_iconst (v := 0) hx hb dL_write_1 (by decide) ?_
  refine lv_aload_n hx hb dL_write_2 rfl (lv_at hl 0 rfl) ?_
  refine lv_iload_n hx hb dL_write_3 rfl (lv_at hl 1 rfl) ?_
  refine vx_calli (post := fun (_ : Int32) (_ : Unit) => False) (B := fun _ _ => True) (A1 := AC a 37 s.heap.size) (vx_runV (mc := 1) (ms := 6) (As := [.int p1]) (rest := [.int 0, .ref o]) ⟨hx, hb, hml, hown, hts⟩ (xX7_write l hfl D y a t ts (ao_I hI) (va_Qi (S := Unit) (fun _ _ => False) (fun _ _ => True) (AC a 37 s.heap.size)) _ σ τ p1 1 hm) (cwV 1 hts (gAV aM_L_35 aI_X7_write aS_X7_write aN_X7 aC_X7_write) rfl rfl rfl eX7_write ⟨Nat.le_of_ble_eq_true rfl, Nat.le_of_ble_eq_true rfl⟩) (preV_OE hK hP hF hE hS) rfl rfl hl.1 rfl (lv_room (Nat.le_of_ble_eq_true rfl)) dL_write_4 ⟨Nat.le_of_ble_eq_true rfl, Nat.le_of_ble_eq_true rfl⟩) hS (fun q _ h => AC_ao hS.1 q h) (AC_ao hS.1) (fun q _ h => AC_ao hS.1 q h) (fun E ce q9 u T H1 locs1 ht hvm hpx hBX hz hk1 hS hce hcv hcl => ?_) (fun _ _ _ _ _ _ _ h => h.elim)
  obtain ⟨rfl, hP1⟩ := hBX
  unfold posW at hP1
  rw [ht, hpx] at hP1
  have hP := wO_join hI hP hk1 hP1
  have htab := vx_table (x := yL_write) B (hts _ List.mem_cons_self)
  refine vx_catch hown [⟨0, 9, 12, 25⟩] ⟨0, 9, 15, 13⟩ [] (by rw [htab]; rfl) (List.forall_mem_cons.mpr ⟨Or.inr ⟨by decide, "java/lang/IndexOutOfBoundsException", hts _ (List.mem_cons_of_mem _ xC3), hE.2.1.2.1⟩, fun _ h => absurd h List.not_mem_nil⟩) (by decide) (by decide) (hts _ (List.mem_cons_of_mem _ xC1)) (va_Nw.use rfl hE.1.1.1) hce hcv hcl ?_
  refine lv_astore_n (lv' := [(3, .ref q9), (0, .ref (a 0)), (1, .int p1), (2, .ref o)]) hx hb dL_write_15 rfl hl (by decide) rfl (fun ls hl => ?_)
  refine lv_iconst (v := 2) hx hb dL_write_16 (by decide) ?_
  exact W.iret (v := 2) hx hb hr (fun T hT hW => ⟨⟨2, (τ, f), rfl, ⟨rfl, rfl⟩, by rw [posO, hT]; exact hP⟩, hS.F hT⟩) hS.2.2 dL_write_17
set_option maxHeartbeats 4000000 in
set_option maxRecDepth 100000 in
theorem xL_write_3 (l : Launch) (hfl : l.stackTraces = false) (D : va_G) (y : Nat → ClassId) (a : Nat → Nat) (o : Nat) (t ts : Nat → Nat) (hI : AI (ao a o) 38) (sz : Nat) (f : Nat → Int64) (σ τ : St) (p1 : Int32) (hm : tX7_write σ p1 = some (3, τ)) : Met l yL_write zL_write { frames := 7, cells := 1, slots := 6, locals := 119 } (va_Pc [.ref (a 0), .int p1, .ref o] (preO D y a o t ts f σ sz)) (va_Qi (fun r' u => r' = 1 ∧ u = (τ, f)) (posO D y a o) (AC (ao a o) 38 sz)) 1 6 (AC (ao a o) 38 sz) := by
  refine va_MetW (cc := cL_write) (maxL := 4) (ret := (some .int)) (hh := [(0, 9, 12, 25), (0, 9, 15, 13)]) (by decide) rfl ?_
  intro p e s m args below meth c s₁ B hml hv
  obtain ⟨rfl, ⟨hsz, hP, hK, hF⟩, hE⟩ := hv
  have hx := B.exec
  have hb := B.bytes
  have hr := B.returns
  have hts := atoms_spec (ws := zL_write) B.pre
  have hown : s.vm.findClass RL = some m.cls := findClass_of_methodNamed B.named
  have hlocks := B.notSynchronized
  subst hsz
  have hS : va_S (AC (ao a o) 38 s.heap.size) s.heap s.heap [] := va_S.rf
  have hl := lv_entry ([.ref (a 0), .int p1, .ref o]) (n := 4) (Nat.le_of_ble_eq_true rfl)
  rw [lg_entry_eq]
  generalize (lg_sl ([.ref (a 0), .int p1, .ref o]) ++ List.replicate (4 - (lg_sl ([.ref (a 0), .int p1, .ref o])).length) Slot.unset).toArray = ls at hl ⊢
  have hl : lv_has ls 4 [(0, .ref (a 0)), (1, .int p1), (2, .ref o)] := hl
  refine lv_aload_n hx hb dL_write_0 rfl (lv_at hl 2 rfl) ?_
  refine lv_iconst (v := 0) hx hb dL_write_1 (by decide) ?_
  refine lv_aload_n hx hb dL_write_2 rfl (lv_at hl 0 rfl) ?_
  refine lv_iload_n hx hb dL_write_3 rfl (lv_at hl 1 rfl) ?_
  refine vx_calli (post := fun (_ : Int32) (_ : Unit) => False) (B := fun _ _ => True) (A1 := AC a 37 s.heap.size) (vx_runV (mc := 1) (ms := 6) (As := [.int p1]) (rest := [.int 0, .ref o]) ⟨hx, hb, hml, hown, hts⟩ (xX7_write l hfl D y a t ts (ao_I hI) (va_Qi (S := Unit) (fun _ _ => False) (fun _ _ => True) (AC a 37 s.heap.size)) _ σ τ p1 3 hm) (cwV 1 hts (gAV aM_L_35 aI_X7_write aS_X7_write aN_X7 aC_X7_write) rfl rfl rfl eX7_write ⟨Nat.le_of_ble_eq_true rfl, Nat.le_of_ble_eq_true rfl⟩) (preV_OE hK hP hF hE hS) rfl rfl hl.1 rfl (lv_room (Nat.le_of_ble_eq_true rfl)) dL_write_4 ⟨Nat.le_of_ble_eq_true rfl, Nat.le_of_ble_eq_true rfl⟩) hS (fun q _ h => AC_ao hS.1 q h) (AC_ao hS.1) (fun q _ h => AC_ao hS.1 q h) (fun E ce q9 u T H1 locs1 ht hvm hpx hBX hz hk1 hS hce hcv hcl => ?_) (fun _ _ _ _ _ _ _ h => h.elim)
  obtain ⟨rfl, hP1⟩ := hBX
  unfold posW at hP1
  rw [ht, hpx] at hP1
  have hP := wO_join hI hP hk1 hP1
  have htab := vx_table (x := yL_write) B (hts _ List.mem_cons_self)
  refine vx_catch hown [] ⟨0, 9, 12, 25⟩ [⟨0, 9, 15, 13⟩] (by rw [htab]; rfl) (fun _ h => absurd h List.not_mem_nil) (by decide) (by decide) (hts _ (List.mem_cons_of_mem _ xC3)) (va_Nw.use rfl hE.1.1.2.2) hce hcv hcl ?_
  refine lv_astore_n (lv' := [(3, .ref q9), (0, .ref (a 0)), (1, .int p1), (2, .ref o)]) hx hb dL_write_12 rfl hl (by decide) rfl (fun ls hl => ?_)
  refine lv_iconst (v := 1) hx hb dL_write_13 (by decide) ?_
  exact W.iret (v := 1) hx hb hr (fun T hT hW => ⟨⟨1, (τ, f), rfl, ⟨rfl, rfl⟩, by rw [posO, hT]; exact hP⟩, hS.F hT⟩) hS.2.2 dL_write_14
theorem eL_byteAt : yL_byteAt.cls ≠ "java/lang/invoke/MethodHandle" ∧ yL_byteAt.cls ≠ "java/lang/invoke/VarHandle" ∧ (parseMethodDescriptor yL_byteAt.desc).map (fun d => d.parameters.length) = some 3 := by decide +kernel
set_option maxHeartbeats 4000000 in
set_option maxRecDepth 100000 in
theorem kL_byteAt (l : Launch) (D : va_G) (y : Nat → ClassId) (a : Nat → Nat) (o : Nat) (t ts : Nat → Nat) (hI : AI (ao a o) 38) (sz : Nat) (f : Nat → Int64) (σ : St) (p1 : Int32) (r : Int32) (hm : mX7_byteAt σ p1 = some r) : Met l yL_byteAt zL_byteAt { frames := 7, cells := 1, slots := 6, locals := 119 } (va_Pc [.ref (a 0), .int p1, .ref o] (preO D y a o t ts f σ sz)) (va_Qi (fun r' u => r' = 0 ∧ u = (σ, vp_updL f 0 r.toInt64)) (posO D y a o) (AC (ao a o) 38 sz)) 1 6 (AC (ao a o) 38 sz) := by
  refine va_MetW (cc := cL_byteAt) (maxL := 4) (ret := (some .int)) (hh := [(0, 9, 12, 25)]) (by decide) rfl ?_
  intro p e s m args below meth c s₁ B hml hv
  obtain ⟨rfl, ⟨hsz, hP, hK, hF⟩, hE⟩ := hv
  have hx := B.exec
  have hb := B.bytes
  have hr := B.returns
  have hts := atoms_spec (ws := zL_byteAt) B.pre
  have hown : s.vm.findClass RL = some m.cls := findClass_of_methodNamed B.named
  have hlocks := B.notSynchronized
  subst hsz
  have hS : va_S (AC (ao a o) 38 s.heap.size) s.heap s.heap [] := va_S.rf
  have hl := lv_entry ([.ref (a 0), .int p1, .ref o]) (n := 4) (Nat.le_of_ble_eq_true rfl)
  rw [lg_entry_eq]
  generalize (lg_sl ([.ref (a 0), .int p1, .ref o]) ++ List.replicate (4 - (lg_sl ([.ref (a 0), .int p1, .ref o])).length) Slot.unset).toArray = ls at hl ⊢
  have hl : lv_has ls 4 [(0, .ref (a 0)), (1, .int p1), (2, .ref o)] := hl
  refine lv_aload_n hx hb dL_byteAt_0 rfl (lv_at hl 2 rfl) ?_
  refine lv_iconst (v := 0) hx hb dL_byteAt_1 (by decide) ?_
  refine lv_aload_n hx hb dL_byteAt_2 rfl (lv_at hl 0 rfl) ?_
  refine lv_iload_n hx hb dL_byteAt_3 rfl (lv_at hl 1 rfl) ?_
  refine calV_i (As := [.int p1]) (rest := [.int 0, .ref o]) ⟨hx, hb, hml, hown, hts⟩ (kX7_byteAt l D y a t (ao_I hI) _ σ p1 r hm) (cwV 1 hts (gAV aM_L_38 aI_X7_byteAt aS_X7_byteAt aN_X7 aC_X7_byteAt) rfl rfl rfl eX7_byteAt ⟨Nat.le_of_ble_eq_true rfl, Nat.le_of_ble_eq_true rfl⟩) (preV_O hK hP hF hS) rfl hl.1 rfl (Nat.le_of_ble_eq_true rfl) dL_byteAt_4 ⟨Nat.zero_le _, Nat.zero_le _⟩ hS (AC_ao hS.1) (fun H locs hP1 hS hk1 => ?_)
  have hP := wO_join hI hP hk1 hP1
  refine lv_i2l (v := r.toInt64) hx hb dL_byteAt_7 rfl ?_
  refine stO hx hb hK hP hI hS dL_byteAt_8 (fun H locs hP hS => ?_)
  refine lv_goto (tgt := 15) hx hb dL_byteAt_9 (by decide) ?_
  refine lv_iconst (v := 0) hx hb dL_byteAt_15 (by decide) ?_
  refine W.widen (k := 1) (n := 6) (by decide) (by decide) ?_
  exact W.iret (v := 0) hx hb hr (fun T hT hW => ⟨⟨0, (σ, vp_updL f 0 r.toInt64), rfl, ⟨rfl, rfl⟩, by rw [posO, hT]; exact hP⟩, hS.F hT⟩) hS.2.2 dL_byteAt_16
set_option maxHeartbeats 4000000 in
set_option maxRecDepth 100000 in
theorem xL_byteAt_3 (l : Launch) (hfl : l.stackTraces = false) (D : va_G) (y : Nat → ClassId) (a : Nat → Nat) (o : Nat) (t ts : Nat → Nat) (hI : AI (ao a o) 38) (sz : Nat) (f : Nat → Int64) (σ : St) (p1 : Int32) (hm : tX7_byteAt σ p1 = some 3) : Met l yL_byteAt zL_byteAt { frames := 7, cells := 1, slots := 6, locals := 119 } (va_Pc [.ref (a 0), .int p1, .ref o] (preO D y a o t ts f σ sz)) (va_Qi (fun r' u => r' = 1 ∧ u = (σ, f)) (posO D y a o) (AC (ao a o) 38 sz)) 1 6 (AC (ao a o) 38 sz) := by
  refine va_MetW (cc := cL_byteAt) (maxL := 4) (ret := (some .int)) (hh := [(0, 9, 12, 25)]) (by decide) rfl ?_
  intro p e s m args below meth c s₁ B hml hv
  obtain ⟨rfl, ⟨hsz, hP, hK, hF⟩, hE⟩ := hv
  have hx := B.exec
  have hb := B.bytes
  have hr := B.returns
  have hts := atoms_spec (ws := zL_byteAt) B.pre
  have hown : s.vm.findClass RL = some m.cls := findClass_of_methodNamed B.named
  have hlocks := B.notSynchronized
  subst hsz
  have hS : va_S (AC (ao a o) 38 s.heap.size) s.heap s.heap [] := va_S.rf
  have hl := lv_entry ([.ref (a 0), .int p1, .ref o]) (n := 4) (Nat.le_of_ble_eq_true rfl)
  rw [lg_entry_eq]
  generalize (lg_sl ([.ref (a 0), .int p1, .ref o]) ++ List.replicate (4 - (lg_sl ([.ref (a 0), .int p1, .ref o])).length) Slot.unset).toArray = ls at hl ⊢
  have hl : lv_has ls 4 [(0, .ref (a 0)), (1, .int p1), (2, .ref o)] := hl
  refine lv_aload_n hx hb dL_byteAt_0 rfl (lv_at hl 2 rfl) ?_
  refine lv_iconst (v := 0) hx hb dL_byteAt_1 (by decide) ?_
  refine lv_aload_n hx hb dL_byteAt_2 rfl (lv_at hl 0 rfl) ?_
  refine lv_iload_n hx hb dL_byteAt_3 rfl (lv_at hl 1 rfl) ?_
  refine vx_calli (post := fun (_ : Int32) (_ : Unit) => False) (B := fun _ _ => True) (A1 := AC a 37 s.heap.size) (vx_runV (mc := 1) (ms := 6) (As := [.int p1]) (rest := [.int 0, .ref o]) ⟨hx, hb, hml, hown, hts⟩ (xX7_byteAt l hfl D y a t ts (ao_I hI) (va_Qi (S := Unit) (fun _ _ => False) (fun _ _ => True) (AC a 37 s.heap.size)) _ σ p1 3 hm) (cwV 1 hts (gAV aM_L_38 aI_X7_byteAt aS_X7_byteAt aN_X7 aC_X7_byteAt) rfl rfl rfl eX7_byteAt ⟨Nat.le_of_ble_eq_true rfl, Nat.le_of_ble_eq_true rfl⟩) (preV_OE hK hP hF hE hS) rfl rfl hl.1 rfl (lv_room (Nat.le_of_ble_eq_true rfl)) dL_byteAt_4 ⟨Nat.le_of_ble_eq_true rfl, Nat.le_of_ble_eq_true rfl⟩) hS (fun q _ h => AC_ao hS.1 q h) (AC_ao hS.1) (fun q _ h => AC_ao hS.1 q h) (fun E ce q9 u T H1 locs1 ht hvm hpx hBX hz hk1 hS hce hcv hcl => ?_) (fun _ _ _ _ _ _ _ h => h.elim)
  obtain ⟨rfl, hP1⟩ := hBX
  unfold posW at hP1
  rw [ht, hpx] at hP1
  have hP := wO_join hI hP hk1 hP1
  have htab := vx_table (x := yL_byteAt) B (hts _ List.mem_cons_self)
  refine vx_catch hown [] ⟨0, 9, 12, 25⟩ [] (by rw [htab]; rfl) (fun _ h => absurd h List.not_mem_nil) (by decide) (by decide) (hts _ (List.mem_cons_of_mem _ xC3)) (va_Nw.use rfl hE.1.1.2.2) hce hcv hcl ?_
  refine lv_astore_n (lv' := [(3, .ref q9), (0, .ref (a 0)), (1, .int p1), (2, .ref o)]) hx hb dL_byteAt_12 rfl hl (by decide) rfl (fun ls hl => ?_)
  refine lv_iconst (v := 1) hx hb dL_byteAt_13 (by decide) ?_
  exact W.iret (v := 1) hx hb hr (fun T hT hW => ⟨⟨1, (σ, f), rfl, ⟨rfl, rfl⟩, by rw [posO, hT]; exact hP⟩, hS.F hT⟩) hS.2.2 dL_byteAt_14
theorem eL_premise : yL_premise.cls ≠ "java/lang/invoke/MethodHandle" ∧ yL_premise.cls ≠ "java/lang/invoke/VarHandle" ∧ (parseMethodDescriptor yL_premise.desc).map (fun d => d.parameters.length) = some 3 := by decide +kernel
set_option maxHeartbeats 4000000 in
set_option maxRecDepth 100000 in
theorem kL_premise (l : Launch) (D : va_G) (y : Nat → ClassId) (a : Nat → Nat) (o : Nat) (t ts : Nat → Nat) (hI : AI (ao a o) 38) (sz : Nat) (f : Nat → Int64) (σ τ : St) (p1 : Int32) (r : Int32) (hm : mX7_premise σ p1 = some (r, τ)) : Met l yL_premise zL_premise { frames := 7, cells := 1, slots := 6, locals := 120 } (va_Pc [.ref (a 0), .int p1, .ref o] (preO D y a o t ts f σ sz)) (va_Qi (fun r' u => r' = 0 ∧ u = (τ, vp_updL f 0 r.toInt64)) (posO D y a o) (AC (ao a o) 38 sz)) 1 6 (AC (ao a o) 38 sz) := by
  refine va_MetW (cc := cL_premise) (maxL := 4) (ret := (some .int)) (hh := [(0, 9, 12, 25), (0, 9, 15, 13)]) (by decide) rfl ?_
  intro p e s m args below meth c s₁ B hml hv
  obtain ⟨rfl, ⟨hsz, hP, hK, hF⟩, hE⟩ := hv
  have hx := B.exec
  have hb := B.bytes
  have hr := B.returns
  have hts := atoms_spec (ws := zL_premise) B.pre
  have hown : s.vm.findClass RL = some m.cls := findClass_of_methodNamed B.named
  have hlocks := B.notSynchronized
  subst hsz
  have hS : va_S (AC (ao a o) 38 s.heap.size) s.heap s.heap [] := va_S.rf
  have hl := lv_entry ([.ref (a 0), .int p1, .ref o]) (n := 4) (Nat.le_of_ble_eq_true rfl)
  rw [lg_entry_eq]
  generalize (lg_sl ([.ref (a 0), .int p1, .ref o]) ++ List.replicate (4 - (lg_sl ([.ref (a 0), .int p1, .ref o])).length) Slot.unset).toArray = ls at hl ⊢
  have hl : lv_has ls 4 [(0, .ref (a 0)), (1, .int p1), (2, .ref o)] := hl
  refine lv_aload_n hx hb dL_premise_0 rfl (lv_at hl 2 rfl) ?_
  refine lv_iconst (v := 0) hx hb dL_premise_1 (by decide) ?_
  refine lv_aload_n hx hb dL_premise_2 rfl (lv_at hl 0 rfl) ?_
  refine lv_iload_n hx hb dL_premise_3 rfl (lv_at hl 1 rfl) ?_
  refine calV_i (As := [.int p1]) (rest := [.int 0, .ref o]) ⟨hx, hb, hml, hown, hts⟩ (kX7_premise l D y a t (ao_I hI) _ σ τ p1 r hm) (cwV 1 hts (gAV aM_L_41 aI_X7_premise aS_X7_premise aN_X7 aC_X7_premise) rfl rfl rfl eX7_premise ⟨Nat.le_of_ble_eq_true rfl, Nat.le_of_ble_eq_true rfl⟩) (preV_O hK hP hF hS) rfl hl.1 rfl (Nat.le_of_ble_eq_true rfl) dL_premise_4 ⟨Nat.zero_le _, Nat.zero_le _⟩ hS (AC_ao hS.1) (fun H locs hP1 hS hk1 => ?_)
  have hP := wO_join hI hP hk1 hP1
  refine lv_i2l (v := r.toInt64) hx hb dL_premise_7 rfl ?_
  refine stO hx hb hK hP hI hS dL_premise_8 (fun H locs hP hS => ?_)
  refine lv_goto (tgt := 18) hx hb dL_premise_9 (by decide) ?_
  refine lv_iconst (v := 0) hx hb dL_premise_18 (by decide) ?_
  refine W.widen (k := 1) (n := 6) (by decide) (by decide) ?_
  exact W.iret (v := 0) hx hb hr (fun T hT hW => ⟨⟨0, (τ, vp_updL f 0 r.toInt64), rfl, ⟨rfl, rfl⟩, by rw [posO, hT]; exact hP⟩, hS.F hT⟩) hS.2.2 dL_premise_19
set_option maxHeartbeats 4000000 in
set_option maxRecDepth 100000 in
theorem xL_premise_1 (l : Launch) (hfl : l.stackTraces = false) (D : va_G) (y : Nat → ClassId) (a : Nat → Nat) (o : Nat) (t ts : Nat → Nat) (hI : AI (ao a o) 38) (sz : Nat) (f : Nat → Int64) (σ τ : St) (p1 : Int32) (hm : tX7_premise σ p1 = some (1, τ)) : Met l yL_premise zL_premise { frames := 7, cells := 1, slots := 6, locals := 120 } (va_Pc [.ref (a 0), .int p1, .ref o] (preO D y a o t ts f σ sz)) (va_Qi (fun r' u => r' = 2 ∧ u = (τ, f)) (posO D y a o) (AC (ao a o) 38 sz)) 1 6 (AC (ao a o) 38 sz) := by
  refine va_MetW (cc := cL_premise) (maxL := 4) (ret := (some .int)) (hh := [(0, 9, 12, 25), (0, 9, 15, 13)]) (by decide) rfl ?_
  intro p e s m args below meth c s₁ B hml hv
  obtain ⟨rfl, ⟨hsz, hP, hK, hF⟩, hE⟩ := hv
  have hx := B.exec
  have hb := B.bytes
  have hr := B.returns
  have hts := atoms_spec (ws := zL_premise) B.pre
  have hown : s.vm.findClass RL = some m.cls := findClass_of_methodNamed B.named
  have hlocks := B.notSynchronized
  subst hsz
  have hS : va_S (AC (ao a o) 38 s.heap.size) s.heap s.heap [] := va_S.rf
  have hl := lv_entry ([.ref (a 0), .int p1, .ref o]) (n := 4) (Nat.le_of_ble_eq_true rfl)
  rw [lg_entry_eq]
  generalize (lg_sl ([.ref (a 0), .int p1, .ref o]) ++ List.replicate (4 - (lg_sl ([.ref (a 0), .int p1, .ref o])).length) Slot.unset).toArray = ls at hl ⊢
  have hl : lv_has ls 4 [(0, .ref (a 0)), (1, .int p1), (2, .ref o)] := hl
  refine lv_aload_n hx hb dL_premise_0 rfl (lv_at hl 2 rfl) ?_
  refine lv_iconst (v := 0) hx hb dL_premise_1 (by decide) ?_
  refine lv_aload_n hx hb dL_premise_2 rfl (lv_at hl 0 rfl) ?_
  refine lv_iload_n hx hb dL_premise_3 rfl (lv_at hl 1 rfl) ?_
  refine vx_calli (post := fun (_ : Int32) (_ : Unit) => False) (B := fun _ _ => True) (A1 := AC a 37 s.heap.size) (vx_runV (mc := 1) (ms := 6) (As := [.int p1]) (rest := [.int 0, .ref o]) ⟨hx, hb, hml, hown, hts⟩ (xX7_premise l hfl D y a t ts (ao_I hI) (va_Qi (S := Unit) (fun _ _ => False) (fun _ _ => True) (AC a 37 s.heap.size)) _ σ τ p1 1 hm) (cwV 1 hts (gAV aM_L_41 aI_X7_premise aS_X7_premise aN_X7 aC_X7_premise) rfl rfl rfl eX7_premise ⟨Nat.le_of_ble_eq_true rfl, Nat.le_of_ble_eq_true rfl⟩) (preV_OE hK hP hF hE hS) rfl rfl hl.1 rfl (lv_room (Nat.le_of_ble_eq_true rfl)) dL_premise_4 ⟨Nat.le_of_ble_eq_true rfl, Nat.le_of_ble_eq_true rfl⟩) hS (fun q _ h => AC_ao hS.1 q h) (AC_ao hS.1) (fun q _ h => AC_ao hS.1 q h) (fun E ce q9 u T H1 locs1 ht hvm hpx hBX hz hk1 hS hce hcv hcl => ?_) (fun _ _ _ _ _ _ _ h => h.elim)
  obtain ⟨rfl, hP1⟩ := hBX
  unfold posW at hP1
  rw [ht, hpx] at hP1
  have hP := wO_join hI hP hk1 hP1
  have htab := vx_table (x := yL_premise) B (hts _ List.mem_cons_self)
  refine vx_catch hown [⟨0, 9, 12, 25⟩] ⟨0, 9, 15, 13⟩ [] (by rw [htab]; rfl) (List.forall_mem_cons.mpr ⟨Or.inr ⟨by decide, "java/lang/IndexOutOfBoundsException", hts _ (List.mem_cons_of_mem _ xC3), hE.2.1.2.1⟩, fun _ h => absurd h List.not_mem_nil⟩) (by decide) (by decide) (hts _ (List.mem_cons_of_mem _ xC1)) (va_Nw.use rfl hE.1.1.1) hce hcv hcl ?_
  refine lv_astore_n (lv' := [(3, .ref q9), (0, .ref (a 0)), (1, .int p1), (2, .ref o)]) hx hb dL_premise_15 rfl hl (by decide) rfl (fun ls hl => ?_)
  refine lv_iconst (v := 2) hx hb dL_premise_16 (by decide) ?_
  exact W.iret (v := 2) hx hb hr (fun T hT hW => ⟨⟨2, (τ, f), rfl, ⟨rfl, rfl⟩, by rw [posO, hT]; exact hP⟩, hS.F hT⟩) hS.2.2 dL_premise_17
set_option maxHeartbeats 4000000 in
set_option maxRecDepth 100000 in
theorem xL_premise_3 (l : Launch) (hfl : l.stackTraces = false) (D : va_G) (y : Nat → ClassId) (a : Nat → Nat) (o : Nat) (t ts : Nat → Nat) (hI : AI (ao a o) 38) (sz : Nat) (f : Nat → Int64) (σ τ : St) (p1 : Int32) (hm : tX7_premise σ p1 = some (3, τ)) : Met l yL_premise zL_premise { frames := 7, cells := 1, slots := 6, locals := 120 } (va_Pc [.ref (a 0), .int p1, .ref o] (preO D y a o t ts f σ sz)) (va_Qi (fun r' u => r' = 1 ∧ u = (τ, f)) (posO D y a o) (AC (ao a o) 38 sz)) 1 6 (AC (ao a o) 38 sz) := by
  refine va_MetW (cc := cL_premise) (maxL := 4) (ret := (some .int)) (hh := [(0, 9, 12, 25), (0, 9, 15, 13)]) (by decide) rfl ?_
  intro p e s m args below meth c s₁ B hml hv
  obtain ⟨rfl, ⟨hsz, hP, hK, hF⟩, hE⟩ := hv
  have hx := B.exec
  have hb := B.bytes
  have hr := B.returns
  have hts := atoms_spec (ws := zL_premise) B.pre
  have hown : s.vm.findClass RL = some m.cls := findClass_of_methodNamed B.named
  have hlocks := B.notSynchronized
  subst hsz
  have hS : va_S (AC (ao a o) 38 s.heap.size) s.heap s.heap [] := va_S.rf
  have hl := lv_entry ([.ref (a 0), .int p1, .ref o]) (n := 4) (Nat.le_of_ble_eq_true rfl)
  rw [lg_entry_eq]
  generalize (lg_sl ([.ref (a 0), .int p1, .ref o]) ++ List.replicate (4 - (lg_sl ([.ref (a 0), .int p1, .ref o])).length) Slot.unset).toArray = ls at hl ⊢
  have hl : lv_has ls 4 [(0, .ref (a 0)), (1, .int p1), (2, .ref o)] := hl
  refine lv_aload_n hx hb dL_premise_0 rfl (lv_at hl 2 rfl) ?_
  refine lv_iconst (v := 0) hx hb dL_premise_1 (by decide) ?_
  refine lv_aload_n hx hb dL_premise_2 rfl (lv_at hl 0 rfl) ?_
  refine lv_iload_n hx hb dL_premise_3 rfl (lv_at hl 1 rfl) ?_
  refine vx_calli (post := fun (_ : Int32) (_ : Unit) => False) (B := fun _ _ => True) (A1 := AC a 37 s.heap.size) (vx_runV (mc := 1) (ms := 6) (As := [.int p1]) (rest := [.int 0, .ref o]) ⟨hx, hb, hml, hown, hts⟩ (xX7_premise l hfl D y a t ts (ao_I hI) (va_Qi (S := Unit) (fun _ _ => False) (fun _ _ => True) (AC a 37 s.heap.size)) _ σ τ p1 3 hm) (cwV 1 hts (gAV aM_L_41 aI_X7_premise aS_X7_premise aN_X7 aC_X7_premise) rfl rfl rfl eX7_premise ⟨Nat.le_of_ble_eq_true rfl, Nat.le_of_ble_eq_true rfl⟩) (preV_OE hK hP hF hE hS) rfl rfl hl.1 rfl (lv_room (Nat.le_of_ble_eq_true rfl)) dL_premise_4 ⟨Nat.le_of_ble_eq_true rfl, Nat.le_of_ble_eq_true rfl⟩) hS (fun q _ h => AC_ao hS.1 q h) (AC_ao hS.1) (fun q _ h => AC_ao hS.1 q h) (fun E ce q9 u T H1 locs1 ht hvm hpx hBX hz hk1 hS hce hcv hcl => ?_) (fun _ _ _ _ _ _ _ h => h.elim)
  obtain ⟨rfl, hP1⟩ := hBX
  unfold posW at hP1
  rw [ht, hpx] at hP1
  have hP := wO_join hI hP hk1 hP1
  have htab := vx_table (x := yL_premise) B (hts _ List.mem_cons_self)
  refine vx_catch hown [] ⟨0, 9, 12, 25⟩ [⟨0, 9, 15, 13⟩] (by rw [htab]; rfl) (fun _ h => absurd h List.not_mem_nil) (by decide) (by decide) (hts _ (List.mem_cons_of_mem _ xC3)) (va_Nw.use rfl hE.1.1.2.2) hce hcv hcl ?_
  refine lv_astore_n (lv' := [(3, .ref q9), (0, .ref (a 0)), (1, .int p1), (2, .ref o)]) hx hb dL_premise_12 rfl hl (by decide) rfl (fun ls hl => ?_)
  refine lv_iconst (v := 1) hx hb dL_premise_13 (by decide) ?_
  exact W.iret (v := 1) hx hb hr (fun T hT hW => ⟨⟨1, (τ, f), rfl, ⟨rfl, rfl⟩, by rw [posO, hT]; exact hP⟩, hS.F hT⟩) hS.2.2 dL_premise_14
theorem eL_assume : yL_assume.cls ≠ "java/lang/invoke/MethodHandle" ∧ yL_assume.cls ≠ "java/lang/invoke/VarHandle" ∧ (parseMethodDescriptor yL_assume.desc).map (fun d => d.parameters.length) = some 3 := by decide +kernel
set_option maxHeartbeats 4000000 in
set_option maxRecDepth 100000 in
theorem kL_assume (l : Launch) (D : va_G) (y : Nat → ClassId) (a : Nat → Nat) (o : Nat) (t ts : Nat → Nat) (hI : AI (ao a o) 38) (sz : Nat) (f : Nat → Int64) (σ τ : St) (p1 : Int32) (r : Int32) (hm : mX7_assume σ p1 = some (r, τ)) : Met l yL_assume zL_assume { frames := 7, cells := 1, slots := 6, locals := 119 } (va_Pc [.ref (a 0), .int p1, .ref o] (preO D y a o t ts f σ sz)) (va_Qi (fun r' u => r' = 0 ∧ u = (τ, vp_updL f 0 r.toInt64)) (posO D y a o) (AC (ao a o) 38 sz)) 1 6 (AC (ao a o) 38 sz) := by
  refine va_MetW (cc := cL_assume) (maxL := 4) (ret := (some .int)) (hh := [(0, 9, 12, 25), (0, 9, 15, 13)]) (by decide) rfl ?_
  intro p e s m args below meth c s₁ B hml hv
  obtain ⟨rfl, ⟨hsz, hP, hK, hF⟩, hE⟩ := hv
  have hx := B.exec
  have hb := B.bytes
  have hr := B.returns
  have hts := atoms_spec (ws := zL_assume) B.pre
  have hown : s.vm.findClass RL = some m.cls := findClass_of_methodNamed B.named
  have hlocks := B.notSynchronized
  subst hsz
  have hS : va_S (AC (ao a o) 38 s.heap.size) s.heap s.heap [] := va_S.rf
  have hl := lv_entry ([.ref (a 0), .int p1, .ref o]) (n := 4) (Nat.le_of_ble_eq_true rfl)
  rw [lg_entry_eq]
  generalize (lg_sl ([.ref (a 0), .int p1, .ref o]) ++ List.replicate (4 - (lg_sl ([.ref (a 0), .int p1, .ref o])).length) Slot.unset).toArray = ls at hl ⊢
  have hl : lv_has ls 4 [(0, .ref (a 0)), (1, .int p1), (2, .ref o)] := hl
  refine lv_aload_n hx hb dL_assume_0 rfl (lv_at hl 2 rfl) ?_
  refine lv_iconst (v := 0) hx hb dL_assume_1 (by decide) ?_
  refine lv_aload_n hx hb dL_assume_2 rfl (lv_at hl 0 rfl) ?_
  refine lv_iload_n hx hb dL_assume_3 rfl (lv_at hl 1 rfl) ?_
  refine calV_i (As := [.int p1]) (rest := [.int 0, .ref o]) ⟨hx, hb, hml, hown, hts⟩ (kX7_assume l D y a t (ao_I hI) _ σ τ p1 r hm) (cwV 1 hts (gAV aM_L_44 aI_X7_assume aS_X7_assume aN_X7 aC_X7_assume) rfl rfl rfl eX7_assume ⟨Nat.le_of_ble_eq_true rfl, Nat.le_of_ble_eq_true rfl⟩) (preV_O hK hP hF hS) rfl hl.1 rfl (Nat.le_of_ble_eq_true rfl) dL_assume_4 ⟨Nat.zero_le _, Nat.zero_le _⟩ hS (AC_ao hS.1) (fun H locs hP1 hS hk1 => ?_)
  have hP := wO_join hI hP hk1 hP1
  refine lv_i2l (v := r.toInt64) hx hb dL_assume_7 rfl ?_
  refine stO hx hb hK hP hI hS dL_assume_8 (fun H locs hP hS => ?_)
  refine lv_goto (tgt := 18) hx hb dL_assume_9 (by decide) ?_
  refine lv_iconst (v := 0) hx hb dL_assume_18 (by decide) ?_
  refine W.widen (k := 1) (n := 6) (by decide) (by decide) ?_
  exact W.iret (v := 0) hx hb hr (fun T hT hW => ⟨⟨0, (τ, vp_updL f 0 r.toInt64), rfl, ⟨rfl, rfl⟩, by rw [posO, hT]; exact hP⟩, hS.F hT⟩) hS.2.2 dL_assume_19
set_option maxHeartbeats 4000000 in
set_option maxRecDepth 100000 in
theorem xL_assume_1 (l : Launch) (hfl : l.stackTraces = false) (D : va_G) (y : Nat → ClassId) (a : Nat → Nat) (o : Nat) (t ts : Nat → Nat) (hI : AI (ao a o) 38) (sz : Nat) (f : Nat → Int64) (σ τ : St) (p1 : Int32) (hm : tX7_assume σ p1 = some (1, τ)) : Met l yL_assume zL_assume { frames := 7, cells := 1, slots := 6, locals := 119 } (va_Pc [.ref (a 0), .int p1, .ref o] (preO D y a o t ts f σ sz)) (va_Qi (fun r' u => r' = 2 ∧ u = (τ, f)) (posO D y a o) (AC (ao a o) 38 sz)) 1 6 (AC (ao a o) 38 sz) := by
  refine va_MetW (cc := cL_assume) (maxL := 4) (ret := (some .int)) (hh := [(0, 9, 12, 25), (0, 9, 15, 13)]) (by decide) rfl ?_
  intro p e s m args below meth c s₁ B hml hv
  obtain ⟨rfl, ⟨hsz, hP, hK, hF⟩, hE⟩ := hv
  have hx := B.exec
  have hb := B.bytes
  have hr := B.returns
  have hts := atoms_spec (ws := zL_assume) B.pre
  have hown : s.vm.findClass RL = some m.cls := findClass_of_methodNamed B.named
  have hlocks := B.notSynchronized
  subst hsz
  have hS : va_S (AC (ao a o) 38 s.heap.size) s.heap s.heap [] := va_S.rf
  have hl := lv_entry ([.ref (a 0), .int p1, .ref o]) (n := 4) (Nat.le_of_ble_eq_true rfl)
  rw [lg_entry_eq]
  generalize (lg_sl ([.ref (a 0), .int p1, .ref o]) ++ List.replicate (4 - (lg_sl ([.ref (a 0), .int p1, .ref o])).length) Slot.unset).toArray = ls at hl ⊢
  have hl : lv_has ls 4 [(0, .ref (a 0)), (1, .int p1), (2, .ref o)] := hl
  refine lv_aload_n hx hb dL_assume_0 rfl (lv_at hl 2 rfl) ?_
  refine lv_iconst (v := 0) hx hb dL_assume_1 (by decide) ?_
  refine lv_aload_n hx hb dL_assume_2 rfl (lv_at hl 0 rfl) ?_
  refine lv_iload_n hx hb dL_assume_3 rfl (lv_at hl 1 rfl) ?_
  refine vx_calli (post := fun (_ : Int32) (_ : Unit) => False) (B := fun _ _ => True) (A1 := AC a 37 s.heap.size) (vx_runV (mc := 1) (ms := 6) (As := [.int p1]) (rest := [.int 0, .ref o]) ⟨hx, hb, hml, hown, hts⟩ (xX7_assume l hfl D y a t ts (ao_I hI) (va_Qi (S := Unit) (fun _ _ => False) (fun _ _ => True) (AC a 37 s.heap.size)) _ σ τ p1 1 hm) (cwV 1 hts (gAV aM_L_44 aI_X7_assume aS_X7_assume aN_X7 aC_X7_assume) rfl rfl rfl eX7_assume ⟨Nat.le_of_ble_eq_true rfl, Nat.le_of_ble_eq_true rfl⟩) (preV_OE hK hP hF hE hS) rfl rfl hl.1 rfl (lv_room (Nat.le_of_ble_eq_true rfl)) dL_assume_4 ⟨Nat.le_of_ble_eq_true rfl, Nat.le_of_ble_eq_true rfl⟩) hS (fun q _ h => AC_ao hS.1 q h) (AC_ao hS.1) (fun q _ h => AC_ao hS.1 q h) (fun E ce q9 u T H1 locs1 ht hvm hpx hBX hz hk1 hS hce hcv hcl => ?_) (fun _ _ _ _ _ _ _ h => h.elim)
  obtain ⟨rfl, hP1⟩ := hBX
  unfold posW at hP1
  rw [ht, hpx] at hP1
  have hP := wO_join hI hP hk1 hP1
  have htab := vx_table (x := yL_assume) B (hts _ List.mem_cons_self)
  refine vx_catch hown [⟨0, 9, 12, 25⟩] ⟨0, 9, 15, 13⟩ [] (by rw [htab]; rfl) (List.forall_mem_cons.mpr ⟨Or.inr ⟨by decide, "java/lang/IndexOutOfBoundsException", hts _ (List.mem_cons_of_mem _ xC3), hE.2.1.2.1⟩, fun _ h => absurd h List.not_mem_nil⟩) (by decide) (by decide) (hts _ (List.mem_cons_of_mem _ xC1)) (va_Nw.use rfl hE.1.1.1) hce hcv hcl ?_
  refine lv_astore_n (lv' := [(3, .ref q9), (0, .ref (a 0)), (1, .int p1), (2, .ref o)]) hx hb dL_assume_15 rfl hl (by decide) rfl (fun ls hl => ?_)
  refine lv_iconst (v := 2) hx hb dL_assume_16 (by decide) ?_
  exact W.iret (v := 2) hx hb hr (fun T hT hW => ⟨⟨2, (τ, f), rfl, ⟨rfl, rfl⟩, by rw [posO, hT]; exact hP⟩, hS.F hT⟩) hS.2.2 dL_assume_17
set_option maxHeartbeats 4000000 in
set_option maxRecDepth 100000 in
theorem xL_assume_3 (l : Launch) (hfl : l.stackTraces = false) (D : va_G) (y : Nat → ClassId) (a : Nat → Nat) (o : Nat) (t ts : Nat → Nat) (hI : AI (ao a o) 38) (sz : Nat) (f : Nat → Int64) (σ τ : St) (p1 : Int32) (hm : tX7_assume σ p1 = some (3, τ)) : Met l yL_assume zL_assume { frames := 7, cells := 1, slots := 6, locals := 119 } (va_Pc [.ref (a 0), .int p1, .ref o] (preO D y a o t ts f σ sz)) (va_Qi (fun r' u => r' = 1 ∧ u = (τ, f)) (posO D y a o) (AC (ao a o) 38 sz)) 1 6 (AC (ao a o) 38 sz) := by
  refine va_MetW (cc := cL_assume) (maxL := 4) (ret := (some .int)) (hh := [(0, 9, 12, 25), (0, 9, 15, 13)]) (by decide) rfl ?_
  intro p e s m args below meth c s₁ B hml hv
  obtain ⟨rfl, ⟨hsz, hP, hK, hF⟩, hE⟩ := hv
  have hx := B.exec
  have hb := B.bytes
  have hr := B.returns
  have hts := atoms_spec (ws := zL_assume) B.pre
  have hown : s.vm.findClass RL = some m.cls := findClass_of_methodNamed B.named
  have hlocks := B.notSynchronized
  subst hsz
  have hS : va_S (AC (ao a o) 38 s.heap.size) s.heap s.heap [] := va_S.rf
  have hl := lv_entry ([.ref (a 0), .int p1, .ref o]) (n := 4) (Nat.le_of_ble_eq_true rfl)
  rw [lg_entry_eq]
  generalize (lg_sl ([.ref (a 0), .int p1, .ref o]) ++ List.replicate (4 - (lg_sl ([.ref (a 0), .int p1, .ref o])).length) Slot.unset).toArray = ls at hl ⊢
  have hl : lv_has ls 4 [(0, .ref (a 0)), (1, .int p1), (2, .ref o)] := hl
  refine lv_aload_n hx hb dL_assume_0 rfl (lv_at hl 2 rfl) ?_
  refine lv_iconst (v := 0) hx hb dL_assume_1 (by decide) ?_
  refine lv_aload_n hx hb dL_assume_2 rfl (lv_at hl 0 rfl) ?_
  refine lv_iload_n hx hb dL_assume_3 rfl (lv_at hl 1 rfl) ?_
  refine vx_calli (post := fun (_ : Int32) (_ : Unit) => False) (B := fun _ _ => True) (A1 := AC a 37 s.heap.size) (vx_runV (mc := 1) (ms := 6) (As := [.int p1]) (rest := [.int 0, .ref o]) ⟨hx, hb, hml, hown, hts⟩ (xX7_assume l hfl D y a t ts (ao_I hI) (va_Qi (S := Unit) (fun _ _ => False) (fun _ _ => True) (AC a 37 s.heap.size)) _ σ τ p1 3 hm) (cwV 1 hts (gAV aM_L_44 aI_X7_assume aS_X7_assume aN_X7 aC_X7_assume) rfl rfl rfl eX7_assume ⟨Nat.le_of_ble_eq_true rfl, Nat.le_of_ble_eq_true rfl⟩) (preV_OE hK hP hF hE hS) rfl rfl hl.1 rfl (lv_room (Nat.le_of_ble_eq_true rfl)) dL_assume_4 ⟨Nat.le_of_ble_eq_true rfl, Nat.le_of_ble_eq_true rfl⟩) hS (fun q _ h => AC_ao hS.1 q h) (AC_ao hS.1) (fun q _ h => AC_ao hS.1 q h) (fun E ce q9 u T H1 locs1 ht hvm hpx hBX hz hk1 hS hce hcv hcl => ?_) (fun _ _ _ _ _ _ _ h => h.elim)
  obtain ⟨rfl, hP1⟩ := hBX
  unfold posW at hP1
  rw [ht, hpx] at hP1
  have hP := wO_join hI hP hk1 hP1
  have htab := vx_table (x := yL_assume) B (hts _ List.mem_cons_self)
  refine vx_catch hown [] ⟨0, 9, 12, 25⟩ [⟨0, 9, 15, 13⟩] (by rw [htab]; rfl) (fun _ h => absurd h List.not_mem_nil) (by decide) (by decide) (hts _ (List.mem_cons_of_mem _ xC3)) (va_Nw.use rfl hE.1.1.2.2) hce hcv hcl ?_
  refine lv_astore_n (lv' := [(3, .ref q9), (0, .ref (a 0)), (1, .int p1), (2, .ref o)]) hx hb dL_assume_12 rfl hl (by decide) rfl (fun ls hl => ?_)
  refine lv_iconst (v := 1) hx hb dL_assume_13 (by decide) ?_
  exact W.iret (v := 1) hx hb hr (fun T hT hW => ⟨⟨1, (τ, f), rfl, ⟨rfl, rfl⟩, by rw [posO, hT]; exact hP⟩, hS.F hT⟩) hS.2.2 dL_assume_14
theorem eL_close : yL_close.cls ≠ "java/lang/invoke/MethodHandle" ∧ yL_close.cls ≠ "java/lang/invoke/VarHandle" ∧ (parseMethodDescriptor yL_close.desc).map (fun d => d.parameters.length) = some 2 := by decide +kernel
set_option maxHeartbeats 4000000 in
set_option maxRecDepth 100000 in
theorem kL_close (l : Launch) (D : va_G) (y : Nat → ClassId) (a : Nat → Nat) (o : Nat) (t ts : Nat → Nat) (hI : AI (ao a o) 38) (sz : Nat) (f : Nat → Int64) (σ τ : St) (r : Int32) (hm : mX7_close σ = some (r, τ)) : Met l yL_close zL_close { frames := 7, cells := 1, slots := 6, locals := 118 } (va_Pc [.ref (a 0), .ref o] (preO D y a o t ts f σ sz)) (va_Qi (fun r' u => r' = 0 ∧ u = (τ, vp_updL f 0 r.toInt64)) (posO D y a o) (AC (ao a o) 38 sz)) 1 6 (AC (ao a o) 38 sz) := by
  refine va_MetW (cc := cL_close) (maxL := 3) (ret := (some .int)) (hh := [(0, 8, 11, 13)]) (by decide) rfl ?_
  intro p e s m args below meth c s₁ B hml hv
  obtain ⟨rfl, ⟨hsz, hP, hK, hF⟩, hE⟩ := hv
  have hx := B.exec
  have hb := B.bytes
  have hr := B.returns
  have hts := atoms_spec (ws := zL_close) B.pre
  have hown : s.vm.findClass RL = some m.cls := findClass_of_methodNamed B.named
  have hlocks := B.notSynchronized
  subst hsz
  have hS : va_S (AC (ao a o) 38 s.heap.size) s.heap s.heap [] := va_S.rf
  have hl := lv_entry ([.ref (a 0), .ref o]) (n := 3) (Nat.le_of_ble_eq_true rfl)
  rw [lg_entry_eq]
  generalize (lg_sl ([.ref (a 0), .ref o]) ++ List.replicate (3 - (lg_sl ([.ref (a 0), .ref o])).length) Slot.unset).toArray = ls at hl ⊢
  have hl : lv_has ls 3 [(0, .ref (a 0)), (1, .ref o)] := hl
  refine lv_aload_n hx hb dL_close_0 rfl (lv_at hl 1 rfl) ?_
  refine lv_iconst (v := 0) hx hb dL_close_1 (by decide) ?_
  refine lv_aload_n hx hb dL_close_2 rfl (lv_at hl 0 rfl) ?_
  refine calV_i (As := []) (rest := [.int 0, .ref o]) ⟨hx, hb, hml, hown, hts⟩ (kX7_close l D y a t (ao_I hI) _ σ τ r hm) (cwV 0 hts (gAV aM_L_47 aI_X7_close aS_X7_close aN_X7 aC_X7_close) rfl rfl rfl eX7_close ⟨Nat.le_of_ble_eq_true rfl, Nat.le_of_ble_eq_true rfl⟩) (preV_O hK hP hF hS) rfl hl.1 rfl (Nat.le_of_ble_eq_true rfl) dL_close_3 ⟨Nat.zero_le _, Nat.zero_le _⟩ hS (AC_ao hS.1) (fun H locs hP1 hS hk1 => ?_)
  have hP := wO_join hI hP hk1 hP1
  refine lv_i2l (v := r.toInt64) hx hb dL_close_6 rfl ?_
  refine stO hx hb hK hP hI hS dL_close_7 (fun H locs hP hS => ?_)
  refine lv_goto (tgt := 14) hx hb dL_close_8 (by decide) ?_
  refine lv_iconst (v := 0) hx hb dL_close_14 (by decide) ?_
  refine W.widen (k := 1) (n := 6) (by decide) (by decide) ?_
  exact W.iret (v := 0) hx hb hr (fun T hT hW => ⟨⟨0, (τ, vp_updL f 0 r.toInt64), rfl, ⟨rfl, rfl⟩, by rw [posO, hT]; exact hP⟩, hS.F hT⟩) hS.2.2 dL_close_15
set_option maxHeartbeats 4000000 in
set_option maxRecDepth 100000 in
theorem xL_close_1 (l : Launch) (hfl : l.stackTraces = false) (D : va_G) (y : Nat → ClassId) (a : Nat → Nat) (o : Nat) (t ts : Nat → Nat) (hI : AI (ao a o) 38) (sz : Nat) (f : Nat → Int64) (σ τ : St) (hm : tX7_close σ = some (1, τ)) : Met l yL_close zL_close { frames := 7, cells := 1, slots := 6, locals := 118 } (va_Pc [.ref (a 0), .ref o] (preO D y a o t ts f σ sz)) (va_Qi (fun r' u => r' = 1 ∧ u = (τ, f)) (posO D y a o) (AC (ao a o) 38 sz)) 1 6 (AC (ao a o) 38 sz) := by
  refine va_MetW (cc := cL_close) (maxL := 3) (ret := (some .int)) (hh := [(0, 8, 11, 13)]) (by decide) rfl ?_
  intro p e s m args below meth c s₁ B hml hv
  obtain ⟨rfl, ⟨hsz, hP, hK, hF⟩, hE⟩ := hv
  have hx := B.exec
  have hb := B.bytes
  have hr := B.returns
  have hts := atoms_spec (ws := zL_close) B.pre
  have hown : s.vm.findClass RL = some m.cls := findClass_of_methodNamed B.named
  have hlocks := B.notSynchronized
  subst hsz
  have hS : va_S (AC (ao a o) 38 s.heap.size) s.heap s.heap [] := va_S.rf
  have hl := lv_entry ([.ref (a 0), .ref o]) (n := 3) (Nat.le_of_ble_eq_true rfl)
  rw [lg_entry_eq]
  generalize (lg_sl ([.ref (a 0), .ref o]) ++ List.replicate (3 - (lg_sl ([.ref (a 0), .ref o])).length) Slot.unset).toArray = ls at hl ⊢
  have hl : lv_has ls 3 [(0, .ref (a 0)), (1, .ref o)] := hl
  refine lv_aload_n hx hb dL_close_0 rfl (lv_at hl 1 rfl) ?_
  refine lv_iconst (v := 0) hx hb dL_close_1 (by decide) ?_
  refine lv_aload_n hx hb dL_close_2 rfl (lv_at hl 0 rfl) ?_
  refine vx_calli (post := fun (_ : Int32) (_ : Unit) => False) (B := fun _ _ => True) (A1 := AC a 37 s.heap.size) (vx_runV (mc := 1) (ms := 6) (As := []) (rest := [.int 0, .ref o]) ⟨hx, hb, hml, hown, hts⟩ (xX7_close l hfl D y a t ts (ao_I hI) (va_Qi (S := Unit) (fun _ _ => False) (fun _ _ => True) (AC a 37 s.heap.size)) _ σ τ 1 hm) (cwV 0 hts (gAV aM_L_47 aI_X7_close aS_X7_close aN_X7 aC_X7_close) rfl rfl rfl eX7_close ⟨Nat.le_of_ble_eq_true rfl, Nat.le_of_ble_eq_true rfl⟩) (preV_OE hK hP hF hE hS) rfl rfl hl.1 rfl (lv_room (Nat.le_of_ble_eq_true rfl)) dL_close_3 ⟨Nat.le_of_ble_eq_true rfl, Nat.le_of_ble_eq_true rfl⟩) hS (fun q _ h => AC_ao hS.1 q h) (AC_ao hS.1) (fun q _ h => AC_ao hS.1 q h) (fun E ce q9 u T H1 locs1 ht hvm hpx hBX hz hk1 hS hce hcv hcl => ?_) (fun _ _ _ _ _ _ _ h => h.elim)
  obtain ⟨rfl, hP1⟩ := hBX
  unfold posW at hP1
  rw [ht, hpx] at hP1
  have hP := wO_join hI hP hk1 hP1
  have htab := vx_table (x := yL_close) B (hts _ List.mem_cons_self)
  refine vx_catch hown [] ⟨0, 8, 11, 13⟩ [] (by rw [htab]; rfl) (fun _ h => absurd h List.not_mem_nil) (by decide) (by decide) (hts _ (List.mem_cons_of_mem _ xC1)) (va_Nw.use rfl hE.1.1.1) hce hcv hcl ?_
  refine lv_astore_n (lv' := [(2, .ref q9), (0, .ref (a 0)), (1, .ref o)]) hx hb dL_close_11 rfl hl (by decide) rfl (fun ls hl => ?_)
  refine lv_iconst (v := 1) hx hb dL_close_12 (by decide) ?_
  exact W.iret (v := 1) hx hb hr (fun T hT hW => ⟨⟨1, (τ, f), rfl, ⟨rfl, rfl⟩, by rw [posO, hT]; exact hP⟩, hS.F hT⟩) hS.2.2 dL_close_13
theorem eL_step : yL_step.cls ≠ "java/lang/invoke/MethodHandle" ∧ yL_step.cls ≠ "java/lang/invoke/VarHandle" ∧ (parseMethodDescriptor yL_step.desc).map (fun d => d.parameters.length) = some 7 := by decide +kernel
set_option maxHeartbeats 4000000 in
set_option maxRecDepth 100000 in
theorem kL_step (l : Launch) (D : va_G) (y : Nat → ClassId) (a : Nat → Nat) (o : Nat) (t ts : Nat → Nat) (hI : AI (ao a o) 38) (sz : Nat) (f : Nat → Int64) (σ τ : St) (p1 : Int32) (p2 : Int32) (p3 : Int32) (p4 : Int32) (p5 : Int32) (r : Int32) (hm : mX7_step σ p1 p2 p3 p4 p5 = some (r, τ)) : Met l yL_step zL_step { frames := 7, cells := 1, slots := 6, locals := 150 } (va_Pc [.ref (a 0), .int p1, .int p2, .int p3, .int p4, .int p5, .ref o] (preO D y a o t ts f σ sz)) (va_Qi (fun r' u => r' = 0 ∧ u = (τ, vp_updL f 0 r.toInt64)) (posO D y a o) (AC (ao a o) 38 sz)) 1 6 (AC (ao a o) 38 sz) := by
  refine va_MetW (cc := cL_step) (maxL := 8) (ret := (some .int)) (hh := [(0, 16, 19, 19), (0, 16, 23, 25), (0, 16, 27, 13)]) (by decide) rfl ?_
  intro p e s m args below meth c s₁ B hml hv
  obtain ⟨rfl, ⟨hsz, hP, hK, hF⟩, hE⟩ := hv
  have hx := B.exec
  have hb := B.bytes
  have hr := B.returns
  have hts := atoms_spec (ws := zL_step) B.pre
  have hown : s.vm.findClass RL = some m.cls := findClass_of_methodNamed B.named
  have hlocks := B.notSynchronized
  subst hsz
  have hS : va_S (AC (ao a o) 38 s.heap.size) s.heap s.heap [] := va_S.rf
  have hl := lv_entry ([.ref (a 0), .int p1, .int p2, .int p3, .int p4, .int p5, .ref o]) (n := 8) (Nat.le_of_ble_eq_true rfl)
  rw [lg_entry_eq]
  generalize (lg_sl ([.ref (a 0), .int p1, .int p2, .int p3, .int p4, .int p5, .ref o]) ++ List.replicate (8 - (lg_sl ([.ref (a 0), .int p1, .int p2, .int p3, .int p4, .int p5, .ref o])).length) Slot.unset).toArray = ls at hl ⊢
  have hl : lv_has ls 8 [(0, .ref (a 0)), (1, .int p1), (2, .int p2), (3, .int p3), (4, .int p4), (5, .int p5), (6, .ref o)] := hl
  refine lv_aload hx hb dL_step_0 (lv_at hl 6 rfl) ?_
  refine lv_iconst (v := 0) hx hb dL_step_2 (by decide) ?_
  refine lv_aload_n hx hb dL_step_3 rfl (lv_at hl 0 rfl) ?_
  refine lv_iload_n hx hb dL_step_4 rfl (lv_at hl 1 rfl) ?_
  refine lv_iload_n hx hb dL_step_5 rfl (lv_at hl 2 rfl) ?_
  refine lv_iload_n hx hb dL_step_6 rfl (lv_at hl 3 rfl) ?_
  refine lv_iload hx hb dL_step_7 (lv_at hl 4 rfl) ?_
  refine lv_iload hx hb dL_step_9 (lv_at hl 5 rfl) ?_
  refine calV_i (As := [.int p1, .int p2, .int p3, .int p4, .int p5]) (rest := [.int 0, .ref o]) ⟨hx, hb, hml, hown, hts⟩ (kX7_step l D y a t (ao_I hI) _ σ τ p1 p2 p3 p4 p5 r hm) (cwV 5 hts (gAV aM_L_51 aI_X7_step aS_X7_step aN_X7 aC_X7_step) rfl rfl rfl eX7_step ⟨Nat.le_of_ble_eq_true rfl, Nat.le_of_ble_eq_true rfl⟩) (preV_O hK hP hF hS) rfl hl.1 rfl (Nat.le_of_ble_eq_true rfl) dL_step_11 ⟨Nat.zero_le _, Nat.zero_le _⟩ hS (AC_ao hS.1) (fun H locs hP1 hS hk1 => ?_)
  have hP := wO_join hI hP hk1 hP1
  refine lv_i2l (v := r.toInt64) hx hb dL_step_14 rfl ?_
  refine stO hx hb hK hP hI hS dL_step_15 (fun H locs hP hS => ?_)
  refine lv_goto (tgt := 31) hx hb dL_step_16 (by decide) ?_
  refine lv_iconst (v := 0) hx hb dL_step_31 (by decide) ?_
  refine W.widen (k := 1) (n := 6) (by decide) (by decide) ?_
  exact W.iret (v := 0) hx hb hr (fun T hT hW => ⟨⟨0, (τ, vp_updL f 0 r.toInt64), rfl, ⟨rfl, rfl⟩, by rw [posO, hT]; exact hP⟩, hS.F hT⟩) hS.2.2 dL_step_32
set_option maxHeartbeats 4000000 in
set_option maxRecDepth 100000 in
theorem xL_step_1 (l : Launch) (hfl : l.stackTraces = false) (D : va_G) (y : Nat → ClassId) (a : Nat → Nat) (o : Nat) (t ts : Nat → Nat) (hI : AI (ao a o) 38) (sz : Nat) (f : Nat → Int64) (σ τ : St) (p1 : Int32) (p2 : Int32) (p3 : Int32) (p4 : Int32) (p5 : Int32) (hm : tX7_step σ p1 p2 p3 p4 p5 = some (1, τ)) : Met l yL_step zL_step { frames := 7, cells := 1, slots := 6, locals := 150 } (va_Pc [.ref (a 0), .int p1, .int p2, .int p3, .int p4, .int p5, .ref o] (preO D y a o t ts f σ sz)) (va_Qi (fun r' u => r' = 3 ∧ u = (τ, f)) (posO D y a o) (AC (ao a o) 38 sz)) 1 6 (AC (ao a o) 38 sz) := by
  refine va_MetW (cc := cL_step) (maxL := 8) (ret := (some .int)) (hh := [(0, 16, 19, 19), (0, 16, 23, 25), (0, 16, 27, 13)]) (by decide) rfl ?_
  intro p e s m args below meth c s₁ B hml hv
  obtain ⟨rfl, ⟨hsz, hP, hK, hF⟩, hE⟩ := hv
  have hx := B.exec
  have hb := B.bytes
  have hr := B.returns
  have hts := atoms_spec (ws := zL_step) B.pre
  have hown : s.vm.findClass RL = some m.cls := findClass_of_methodNamed B.named
  have hlocks := B.notSynchronized
  subst hsz
  have hS : va_S (AC (ao a o) 38 s.heap.size) s.heap s.heap [] := va_S.rf
  have hl := lv_entry ([.ref (a 0), .int p1, .int p2, .int p3, .int p4, .int p5, .ref o]) (n := 8) (Nat.le_of_ble_eq_true rfl)
  rw [lg_entry_eq]
  generalize (lg_sl ([.ref (a 0), .int p1, .int p2, .int p3, .int p4, .int p5, .ref o]) ++ List.replicate (8 - (lg_sl ([.ref (a 0), .int p1, .int p2, .int p3, .int p4, .int p5, .ref o])).length) Slot.unset).toArray = ls at hl ⊢
  have hl : lv_has ls 8 [(0, .ref (a 0)), (1, .int p1), (2, .int p2), (3, .int p3), (4, .int p4), (5, .int p5), (6, .ref o)] := hl
  refine lv_aload hx hb dL_step_0 (lv_at hl 6 rfl) ?_
  refine lv_iconst (v := 0) hx hb dL_step_2 (by decide) ?_
  refine lv_aload_n hx hb dL_step_3 rfl (lv_at hl 0 rfl) ?_
  refine lv_iload_n hx hb dL_step_4 rfl (lv_at hl 1 rfl) ?_
  refine lv_iload_n hx hb dL_step_5 rfl (lv_at hl 2 rfl) ?_
  refine lv_iload_n hx hb dL_step_6 rfl (lv_at hl 3 rfl) ?_
  refine lv_iload hx hb dL_step_7 (lv_at hl 4 rfl) ?_
  refine lv_iload hx hb dL_step_9 (lv_at hl 5 rfl) ?_
  refine vx_calli (post := fun (_ : Int32) (_ : Unit) => False) (B := fun _ _ => True) (A1 := AC a 37 s.heap.size) (vx_runV (mc := 1) (ms := 6) (As := [.int p1, .int p2, .int p3, .int p4, .int p5]) (rest := [.int 0, .ref o]) ⟨hx, hb, hml, hown, hts⟩ (xX7_step l hfl D y a t ts (ao_I hI) (va_Qi (S := Unit) (fun _ _ => False) (fun _ _ => True) (AC a 37 s.heap.size)) _ σ τ p1 p2 p3 p4 p5 1 hm) (cwV 5 hts (gAV aM_L_51 aI_X7_step aS_X7_step aN_X7 aC_X7_step) rfl rfl rfl eX7_step ⟨Nat.le_of_ble_eq_true rfl, Nat.le_of_ble_eq_true rfl⟩) (preV_OE hK hP hF hE hS) rfl rfl hl.1 rfl (lv_room (Nat.le_of_ble_eq_true rfl)) dL_step_11 ⟨Nat.le_of_ble_eq_true rfl, Nat.le_of_ble_eq_true rfl⟩) hS (fun q _ h => AC_ao hS.1 q h) (AC_ao hS.1) (fun q _ h => AC_ao hS.1 q h) (fun E ce q9 u T H1 locs1 ht hvm hpx hBX hz hk1 hS hce hcv hcl => ?_) (fun _ _ _ _ _ _ _ h => h.elim)
  obtain ⟨rfl, hP1⟩ := hBX
  unfold posW at hP1
  rw [ht, hpx] at hP1
  have hP := wO_join hI hP hk1 hP1
  have htab := vx_table (x := yL_step) B (hts _ List.mem_cons_self)
  refine vx_catch hown [⟨0, 16, 19, 19⟩, ⟨0, 16, 23, 25⟩] ⟨0, 16, 27, 13⟩ [] (by rw [htab]; rfl) (List.forall_mem_cons.mpr ⟨Or.inr ⟨by decide, "java/lang/IllegalArgumentException", hts _ (List.mem_cons_of_mem _ xC2), hE.2.1.1⟩, List.forall_mem_cons.mpr ⟨Or.inr ⟨by decide, "java/lang/IndexOutOfBoundsException", hts _ (List.mem_cons_of_mem _ xC3), hE.2.1.2.1⟩, fun _ h => absurd h List.not_mem_nil⟩⟩) (by decide) (by decide) (hts _ (List.mem_cons_of_mem _ xC1)) (va_Nw.use rfl hE.1.1.1) hce hcv hcl ?_
  refine lv_astore (lv' := [(7, .ref q9), (0, .ref (a 0)), (1, .int p1), (2, .int p2), (3, .int p3), (4, .int p4), (5, .int p5), (6, .ref o)]) hx hb dL_step_27 hl (by decide) rfl (fun ls hl => ?_)
  refine lv_iconst (v := 3) hx hb dL_step_29 (by decide) ?_
  exact W.iret (v := 3) hx hb hr (fun T hT hW => ⟨⟨3, (τ, f), rfl, ⟨rfl, rfl⟩, by rw [posO, hT]; exact hP⟩, hS.F hT⟩) hS.2.2 dL_step_30
set_option maxHeartbeats 4000000 in
set_option maxRecDepth 100000 in
theorem xL_step_2 (l : Launch) (hfl : l.stackTraces = false) (D : va_G) (y : Nat → ClassId) (a : Nat → Nat) (o : Nat) (t ts : Nat → Nat) (hI : AI (ao a o) 38) (sz : Nat) (f : Nat → Int64) (σ τ : St) (p1 : Int32) (p2 : Int32) (p3 : Int32) (p4 : Int32) (p5 : Int32) (hm : tX7_step σ p1 p2 p3 p4 p5 = some (2, τ)) : Met l yL_step zL_step { frames := 7, cells := 1, slots := 6, locals := 150 } (va_Pc [.ref (a 0), .int p1, .int p2, .int p3, .int p4, .int p5, .ref o] (preO D y a o t ts f σ sz)) (va_Qi (fun r' u => r' = 1 ∧ u = (τ, f)) (posO D y a o) (AC (ao a o) 38 sz)) 1 6 (AC (ao a o) 38 sz) := by
  refine va_MetW (cc := cL_step) (maxL := 8) (ret := (some .int)) (hh := [(0, 16, 19, 19), (0, 16, 23, 25), (0, 16, 27, 13)]) (by decide) rfl ?_
  intro p e s m args below meth c s₁ B hml hv
  obtain ⟨rfl, ⟨hsz, hP, hK, hF⟩, hE⟩ := hv
  have hx := B.exec
  have hb := B.bytes
  have hr := B.returns
  have hts := atoms_spec (ws := zL_step) B.pre
  have hown : s.vm.findClass RL = some m.cls := findClass_of_methodNamed B.named
  have hlocks := B.notSynchronized
  subst hsz
  have hS : va_S (AC (ao a o) 38 s.heap.size) s.heap s.heap [] := va_S.rf
  have hl := lv_entry ([.ref (a 0), .int p1, .int p2, .int p3, .int p4, .int p5, .ref o]) (n := 8) (Nat.le_of_ble_eq_true rfl)
  rw [lg_entry_eq]
  generalize (lg_sl ([.ref (a 0), .int p1, .int p2, .int p3, .int p4, .int p5, .ref o]) ++ List.replicate (8 - (lg_sl ([.ref (a 0), .int p1, .int p2, .int p3, .int p4, .int p5, .ref o])).length) Slot.unset).toArray = ls at hl ⊢
  have hl : lv_has ls 8 [(0, .ref (a 0)), (1, .int p1), (2, .int p2), (3, .int p3), (4, .int p4), (5, .int p5), (6, .ref o)] := hl
  refine lv_aload hx hb dL_step_0 (lv_at hl 6 rfl) ?_
  refine lv_iconst (v := 0) hx hb dL_step_2 (by decide) ?_
  refine lv_aload_n hx hb dL_step_3 rfl (lv_at hl 0 rfl) ?_
  refine lv_iload_n hx hb dL_step_4 rfl (lv_at hl 1 rfl) ?_
  refine lv_iload_n hx hb dL_step_5 rfl (lv_at hl 2 rfl) ?_
  refine lv_iload_n hx hb dL_step_6 rfl (lv_at hl 3 rfl) ?_
  refine lv_iload hx hb dL_step_7 (lv_at hl 4 rfl) ?_
  refine lv_iload hx hb dL_step_9 (lv_at hl 5 rfl) ?_
  refine vx_calli (post := fun (_ : Int32) (_ : Unit) => False) (B := fun _ _ => True) (A1 := AC a 37 s.heap.size) (vx_runV (mc := 1) (ms := 6) (As := [.int p1, .int p2, .int p3, .int p4, .int p5]) (rest := [.int 0, .ref o]) ⟨hx, hb, hml, hown, hts⟩ (xX7_step l hfl D y a t ts (ao_I hI) (va_Qi (S := Unit) (fun _ _ => False) (fun _ _ => True) (AC a 37 s.heap.size)) _ σ τ p1 p2 p3 p4 p5 2 hm) (cwV 5 hts (gAV aM_L_51 aI_X7_step aS_X7_step aN_X7 aC_X7_step) rfl rfl rfl eX7_step ⟨Nat.le_of_ble_eq_true rfl, Nat.le_of_ble_eq_true rfl⟩) (preV_OE hK hP hF hE hS) rfl rfl hl.1 rfl (lv_room (Nat.le_of_ble_eq_true rfl)) dL_step_11 ⟨Nat.le_of_ble_eq_true rfl, Nat.le_of_ble_eq_true rfl⟩) hS (fun q _ h => AC_ao hS.1 q h) (AC_ao hS.1) (fun q _ h => AC_ao hS.1 q h) (fun E ce q9 u T H1 locs1 ht hvm hpx hBX hz hk1 hS hce hcv hcl => ?_) (fun _ _ _ _ _ _ _ h => h.elim)
  obtain ⟨rfl, hP1⟩ := hBX
  unfold posW at hP1
  rw [ht, hpx] at hP1
  have hP := wO_join hI hP hk1 hP1
  have htab := vx_table (x := yL_step) B (hts _ List.mem_cons_self)
  refine vx_catch hown [] ⟨0, 16, 19, 19⟩ [⟨0, 16, 23, 25⟩, ⟨0, 16, 27, 13⟩] (by rw [htab]; rfl) (fun _ h => absurd h List.not_mem_nil) (by decide) (by decide) (hts _ (List.mem_cons_of_mem _ xC2)) (va_Nw.use rfl hE.1.1.2.1) hce hcv hcl ?_
  refine lv_astore (lv' := [(7, .ref q9), (0, .ref (a 0)), (1, .int p1), (2, .int p2), (3, .int p3), (4, .int p4), (5, .int p5), (6, .ref o)]) hx hb dL_step_19 hl (by decide) rfl (fun ls hl => ?_)
  refine lv_iconst (v := 1) hx hb dL_step_21 (by decide) ?_
  exact W.iret (v := 1) hx hb hr (fun T hT hW => ⟨⟨1, (τ, f), rfl, ⟨rfl, rfl⟩, by rw [posO, hT]; exact hP⟩, hS.F hT⟩) hS.2.2 dL_step_22
set_option maxHeartbeats 4000000 in
set_option maxRecDepth 100000 in
theorem xL_step_3 (l : Launch) (hfl : l.stackTraces = false) (D : va_G) (y : Nat → ClassId) (a : Nat → Nat) (o : Nat) (t ts : Nat → Nat) (hI : AI (ao a o) 38) (sz : Nat) (f : Nat → Int64) (σ τ : St) (p1 : Int32) (p2 : Int32) (p3 : Int32) (p4 : Int32) (p5 : Int32) (hm : tX7_step σ p1 p2 p3 p4 p5 = some (3, τ)) : Met l yL_step zL_step { frames := 7, cells := 1, slots := 6, locals := 150 } (va_Pc [.ref (a 0), .int p1, .int p2, .int p3, .int p4, .int p5, .ref o] (preO D y a o t ts f σ sz)) (va_Qi (fun r' u => r' = 2 ∧ u = (τ, f)) (posO D y a o) (AC (ao a o) 38 sz)) 1 6 (AC (ao a o) 38 sz) := by
  refine va_MetW (cc := cL_step) (maxL := 8) (ret := (some .int)) (hh := [(0, 16, 19, 19), (0, 16, 23, 25), (0, 16, 27, 13)]) (by decide) rfl ?_
  intro p e s m args below meth c s₁ B hml hv
  obtain ⟨rfl, ⟨hsz, hP, hK, hF⟩, hE⟩ := hv
  have hx := B.exec
  have hb := B.bytes
  have hr := B.returns
  have hts := atoms_spec (ws := zL_step) B.pre
  have hown : s.vm.findClass RL = some m.cls := findClass_of_methodNamed B.named
  have hlocks := B.notSynchronized
  subst hsz
  have hS : va_S (AC (ao a o) 38 s.heap.size) s.heap s.heap [] := va_S.rf
  have hl := lv_entry ([.ref (a 0), .int p1, .int p2, .int p3, .int p4, .int p5, .ref o]) (n := 8) (Nat.le_of_ble_eq_true rfl)
  rw [lg_entry_eq]
  generalize (lg_sl ([.ref (a 0), .int p1, .int p2, .int p3, .int p4, .int p5, .ref o]) ++ List.replicate (8 - (lg_sl ([.ref (a 0), .int p1, .int p2, .int p3, .int p4, .int p5, .ref o])).length) Slot.unset).toArray = ls at hl ⊢
  have hl : lv_has ls 8 [(0, .ref (a 0)), (1, .int p1), (2, .int p2), (3, .int p3), (4, .int p4), (5, .int p5), (6, .ref o)] := hl
  refine lv_aload hx hb dL_step_0 (lv_at hl 6 rfl) ?_
  refine lv_iconst (v := 0) hx hb dL_step_2 (by decide) ?_
  refine lv_aload_n hx hb dL_step_3 rfl (lv_at hl 0 rfl) ?_
  refine lv_iload_n hx hb dL_step_4 rfl (lv_at hl 1 rfl) ?_
  refine lv_iload_n hx hb dL_step_5 rfl (lv_at hl 2 rfl) ?_
  refine lv_iload_n hx hb dL_step_6 rfl (lv_at hl 3 rfl) ?_
  refine lv_iload hx hb dL_step_7 (lv_at hl 4 rfl) ?_
  refine lv_iload hx hb dL_step_9 (lv_at hl 5 rfl) ?_
  refine vx_calli (post := fun (_ : Int32) (_ : Unit) => False) (B := fun _ _ => True) (A1 := AC a 37 s.heap.size) (vx_runV (mc := 1) (ms := 6) (As := [.int p1, .int p2, .int p3, .int p4, .int p5]) (rest := [.int 0, .ref o]) ⟨hx, hb, hml, hown, hts⟩ (xX7_step l hfl D y a t ts (ao_I hI) (va_Qi (S := Unit) (fun _ _ => False) (fun _ _ => True) (AC a 37 s.heap.size)) _ σ τ p1 p2 p3 p4 p5 3 hm) (cwV 5 hts (gAV aM_L_51 aI_X7_step aS_X7_step aN_X7 aC_X7_step) rfl rfl rfl eX7_step ⟨Nat.le_of_ble_eq_true rfl, Nat.le_of_ble_eq_true rfl⟩) (preV_OE hK hP hF hE hS) rfl rfl hl.1 rfl (lv_room (Nat.le_of_ble_eq_true rfl)) dL_step_11 ⟨Nat.le_of_ble_eq_true rfl, Nat.le_of_ble_eq_true rfl⟩) hS (fun q _ h => AC_ao hS.1 q h) (AC_ao hS.1) (fun q _ h => AC_ao hS.1 q h) (fun E ce q9 u T H1 locs1 ht hvm hpx hBX hz hk1 hS hce hcv hcl => ?_) (fun _ _ _ _ _ _ _ h => h.elim)
  obtain ⟨rfl, hP1⟩ := hBX
  unfold posW at hP1
  rw [ht, hpx] at hP1
  have hP := wO_join hI hP hk1 hP1
  have htab := vx_table (x := yL_step) B (hts _ List.mem_cons_self)
  refine vx_catch hown [⟨0, 16, 19, 19⟩] ⟨0, 16, 23, 25⟩ [⟨0, 16, 27, 13⟩] (by rw [htab]; rfl) (List.forall_mem_cons.mpr ⟨Or.inr ⟨by decide, "java/lang/IllegalArgumentException", hts _ (List.mem_cons_of_mem _ xC2), hE.2.1.2.2.2.2.2⟩, fun _ h => absurd h List.not_mem_nil⟩) (by decide) (by decide) (hts _ (List.mem_cons_of_mem _ xC3)) (va_Nw.use rfl hE.1.1.2.2) hce hcv hcl ?_
  refine lv_astore (lv' := [(7, .ref q9), (0, .ref (a 0)), (1, .int p1), (2, .int p2), (3, .int p3), (4, .int p4), (5, .int p5), (6, .ref o)]) hx hb dL_step_23 hl (by decide) rfl (fun ls hl => ?_)
  refine lv_iconst (v := 2) hx hb dL_step_25 (by decide) ?_
  exact W.iret (v := 2) hx hb hr (fun T hT hW => ⟨⟨2, (τ, f), rfl, ⟨rfl, rfl⟩, by rw [posO, hT]; exact hP⟩, hS.F hT⟩) hS.2.2 dL_step_26
theorem eL_undo : yL_undo.cls ≠ "java/lang/invoke/MethodHandle" ∧ yL_undo.cls ≠ "java/lang/invoke/VarHandle" ∧ (parseMethodDescriptor yL_undo.desc).map (fun d => d.parameters.length) = some 2 := by decide +kernel
set_option maxHeartbeats 4000000 in
set_option maxRecDepth 100000 in
theorem kL_undo (l : Launch) (D : va_G) (y : Nat → ClassId) (a : Nat → Nat) (o : Nat) (t ts : Nat → Nat) (hI : AI (ao a o) 38) (sz : Nat) (f : Nat → Int64) (σ τ : St) (r : Int32) (hm : mX7_undo σ = some (r, τ)) : Met l yL_undo zL_undo { frames := 7, cells := 1, slots := 6, locals := 118 } (va_Pc [.ref (a 0), .ref o] (preO D y a o t ts f σ sz)) (va_Qi (fun r' u => r' = 0 ∧ u = (τ, vp_updL f 0 r.toInt64)) (posO D y a o) (AC (ao a o) 38 sz)) 1 6 (AC (ao a o) 38 sz) := by
  refine va_MetW (cc := cL_undo) (maxL := 3) (ret := (some .int)) (hh := [(0, 8, 11, 13)]) (by decide) rfl ?_
  intro p e s m args below meth c s₁ B hml hv
  obtain ⟨rfl, ⟨hsz, hP, hK, hF⟩, hE⟩ := hv
  have hx := B.exec
  have hb := B.bytes
  have hr := B.returns
  have hts := atoms_spec (ws := zL_undo) B.pre
  have hown : s.vm.findClass RL = some m.cls := findClass_of_methodNamed B.named
  have hlocks := B.notSynchronized
  subst hsz
  have hS : va_S (AC (ao a o) 38 s.heap.size) s.heap s.heap [] := va_S.rf
  have hl := lv_entry ([.ref (a 0), .ref o]) (n := 3) (Nat.le_of_ble_eq_true rfl)
  rw [lg_entry_eq]
  generalize (lg_sl ([.ref (a 0), .ref o]) ++ List.replicate (3 - (lg_sl ([.ref (a 0), .ref o])).length) Slot.unset).toArray = ls at hl ⊢
  have hl : lv_has ls 3 [(0, .ref (a 0)), (1, .ref o)] := hl
  refine lv_aload_n hx hb dL_undo_0 rfl (lv_at hl 1 rfl) ?_
  refine lv_iconst (v := 0) hx hb dL_undo_1 (by decide) ?_
  refine lv_aload_n hx hb dL_undo_2 rfl (lv_at hl 0 rfl) ?_
  refine calV_i (As := []) (rest := [.int 0, .ref o]) ⟨hx, hb, hml, hown, hts⟩ (kX7_undo l D y a t (ao_I hI) _ σ τ r hm) (cwV 0 hts (gAV aM_L_54 aI_X7_undo aS_X7_undo aN_X7 aC_X7_undo) rfl rfl rfl eX7_undo ⟨Nat.le_of_ble_eq_true rfl, Nat.le_of_ble_eq_true rfl⟩) (preV_O hK hP hF hS) rfl hl.1 rfl (Nat.le_of_ble_eq_true rfl) dL_undo_3 ⟨Nat.zero_le _, Nat.zero_le _⟩ hS (AC_ao hS.1) (fun H locs hP1 hS hk1 => ?_)
  have hP := wO_join hI hP hk1 hP1
  refine lv_i2l (v := r.toInt64) hx hb dL_undo_6 rfl ?_
  refine stO hx hb hK hP hI hS dL_undo_7 (fun H locs hP hS => ?_)
  refine lv_goto (tgt := 14) hx hb dL_undo_8 (by decide) ?_
  refine lv_iconst (v := 0) hx hb dL_undo_14 (by decide) ?_
  refine W.widen (k := 1) (n := 6) (by decide) (by decide) ?_
  exact W.iret (v := 0) hx hb hr (fun T hT hW => ⟨⟨0, (τ, vp_updL f 0 r.toInt64), rfl, ⟨rfl, rfl⟩, by rw [posO, hT]; exact hP⟩, hS.F hT⟩) hS.2.2 dL_undo_15
set_option maxHeartbeats 4000000 in
set_option maxRecDepth 100000 in
theorem xL_undo_1 (l : Launch) (hfl : l.stackTraces = false) (D : va_G) (y : Nat → ClassId) (a : Nat → Nat) (o : Nat) (t ts : Nat → Nat) (hI : AI (ao a o) 38) (sz : Nat) (f : Nat → Int64) (σ τ : St) (hm : tX7_undo σ = some (1, τ)) : Met l yL_undo zL_undo { frames := 7, cells := 1, slots := 6, locals := 118 } (va_Pc [.ref (a 0), .ref o] (preO D y a o t ts f σ sz)) (va_Qi (fun r' u => r' = 1 ∧ u = (τ, f)) (posO D y a o) (AC (ao a o) 38 sz)) 1 6 (AC (ao a o) 38 sz) := by
  refine va_MetW (cc := cL_undo) (maxL := 3) (ret := (some .int)) (hh := [(0, 8, 11, 13)]) (by decide) rfl ?_
  intro p e s m args below meth c s₁ B hml hv
  obtain ⟨rfl, ⟨hsz, hP, hK, hF⟩, hE⟩ := hv
  have hx := B.exec
  have hb := B.bytes
  have hr := B.returns
  have hts := atoms_spec (ws := zL_undo) B.pre
  have hown : s.vm.findClass RL = some m.cls := findClass_of_methodNamed B.named
  have hlocks := B.notSynchronized
  subst hsz
  have hS : va_S (AC (ao a o) 38 s.heap.size) s.heap s.heap [] := va_S.rf
  have hl := lv_entry ([.ref (a 0), .ref o]) (n := 3) (Nat.le_of_ble_eq_true rfl)
  rw [lg_entry_eq]
  generalize (lg_sl ([.ref (a 0), .ref o]) ++ List.replicate (3 - (lg_sl ([.ref (a 0), .ref o])).length) Slot.unset).toArray = ls at hl ⊢
  have hl : lv_has ls 3 [(0, .ref (a 0)), (1, .ref o)] := hl
  refine lv_aload_n hx hb dL_undo_0 rfl (lv_at hl 1 rfl) ?_
  refine lv_iconst (v := 0) hx hb dL_undo_1 (by decide) ?_
  refine lv_aload_n hx hb dL_undo_2 rfl (lv_at hl 0 rfl) ?_
  refine vx_calli (post := fun (_ : Int32) (_ : Unit) => False) (B := fun _ _ => True) (A1 := AC a 37 s.heap.size) (vx_runV (mc := 1) (ms := 6) (As := []) (rest := [.int 0, .ref o]) ⟨hx, hb, hml, hown, hts⟩ (xX7_undo l hfl D y a t ts (ao_I hI) (va_Qi (S := Unit) (fun _ _ => False) (fun _ _ => True) (AC a 37 s.heap.size)) _ σ τ 1 hm) (cwV 0 hts (gAV aM_L_54 aI_X7_undo aS_X7_undo aN_X7 aC_X7_undo) rfl rfl rfl eX7_undo ⟨Nat.le_of_ble_eq_true rfl, Nat.le_of_ble_eq_true rfl⟩) (preV_OE hK hP hF hE hS) rfl rfl hl.1 rfl (lv_room (Nat.le_of_ble_eq_true rfl)) dL_undo_3 ⟨Nat.le_of_ble_eq_true rfl, Nat.le_of_ble_eq_true rfl⟩) hS (fun q _ h => AC_ao hS.1 q h) (AC_ao hS.1) (fun q _ h => AC_ao hS.1 q h) (fun E ce q9 u T H1 locs1 ht hvm hpx hBX hz hk1 hS hce hcv hcl => ?_) (fun _ _ _ _ _ _ _ h => h.elim)
  obtain ⟨rfl, hP1⟩ := hBX
  unfold posW at hP1
  rw [ht, hpx] at hP1
  have hP := wO_join hI hP hk1 hP1
  have htab := vx_table (x := yL_undo) B (hts _ List.mem_cons_self)
  refine vx_catch hown [] ⟨0, 8, 11, 13⟩ [] (by rw [htab]; rfl) (fun _ h => absurd h List.not_mem_nil) (by decide) (by decide) (hts _ (List.mem_cons_of_mem _ xC1)) (va_Nw.use rfl hE.1.1.1) hce hcv hcl ?_
  refine lv_astore_n (lv' := [(2, .ref q9), (0, .ref (a 0)), (1, .ref o)]) hx hb dL_undo_11 rfl hl (by decide) rfl (fun ls hl => ?_)
  refine lv_iconst (v := 1) hx hb dL_undo_12 (by decide) ?_
  exact W.iret (v := 1) hx hb hr (fun T hT hW => ⟨⟨1, (τ, f), rfl, ⟨rfl, rfl⟩, by rw [posO, hT]; exact hP⟩, hS.F hT⟩) hS.2.2 dL_undo_13
theorem eL_count : yL_count.cls ≠ "java/lang/invoke/MethodHandle" ∧ yL_count.cls ≠ "java/lang/invoke/VarHandle" ∧ (parseMethodDescriptor yL_count.desc).map (fun d => d.parameters.length) = some 3 := by decide +kernel
set_option maxHeartbeats 4000000 in
set_option maxRecDepth 100000 in
theorem kL_count (l : Launch) (D : va_G) (y : Nat → ClassId) (a : Nat → Nat) (o : Nat) (t ts : Nat → Nat) (hI : AI (ao a o) 38) (sz : Nat) (f : Nat → Int64) (σ τ : St) (p1 : Int32) (r : Int32) (hm : mX7_count σ p1 = some (r, τ)) : Met l yL_count zL_count { frames := 7, cells := 1, slots := 6, locals := 119 } (va_Pc [.ref (a 0), .int p1, .ref o] (preO D y a o t ts f σ sz)) (va_Qi (fun r' u => r' = 0 ∧ u = (τ, vp_updL f 0 r.toInt64)) (posO D y a o) (AC (ao a o) 38 sz)) 1 6 (AC (ao a o) 38 sz) := by
  refine va_MetW (cc := cL_count) (maxL := 4) (ret := (some .int)) (hh := [(0, 9, 12, 25)]) (by decide) rfl ?_
  intro p e s m args below meth c s₁ B hml hv
  obtain ⟨rfl, ⟨hsz, hP, hK, hF⟩, hE⟩ := hv
  have hx := B.exec
  have hb := B.bytes
  have hr := B.returns
  have hts := atoms_spec (ws := zL_count) B.pre
  have hown : s.vm.findClass RL = some m.cls := findClass_of_methodNamed B.named
  have hlocks := B.notSynchronized
  subst hsz
  have hS : va_S (AC (ao a o) 38 s.heap.size) s.heap s.heap [] := va_S.rf
  have hl := lv_entry ([.ref (a 0), .int p1, .ref o]) (n := 4) (Nat.le_of_ble_eq_true rfl)
  rw [lg_entry_eq]
  generalize (lg_sl ([.ref (a 0), .int p1, .ref o]) ++ List.replicate (4 - (lg_sl ([.ref (a 0), .int p1, .ref o])).length) Slot.unset).toArray = ls at hl ⊢
  have hl : lv_has ls 4 [(0, .ref (a 0)), (1, .int p1), (2, .ref o)] := hl
  refine lv_aload_n hx hb dL_count_0 rfl (lv_at hl 2 rfl) ?_
  refine lv_iconst (v := 0) hx hb dL_count_1 (by decide) ?_
  refine lv_aload_n hx hb dL_count_2 rfl (lv_at hl 0 rfl) ?_
  refine lv_iload_n hx hb dL_count_3 rfl (lv_at hl 1 rfl) ?_
  refine calV_i (As := [.int p1]) (rest := [.int 0, .ref o]) ⟨hx, hb, hml, hown, hts⟩ (kX7_count l D y a t (ao_I hI) _ σ τ p1 r hm) (cwV 1 hts (gAV aM_L_57 aI_X7_count aS_X7_count aN_X7 aC_X7_count) rfl rfl rfl eX7_count ⟨Nat.le_of_ble_eq_true rfl, Nat.le_of_ble_eq_true rfl⟩) (preV_O hK hP hF hS) rfl hl.1 rfl (Nat.le_of_ble_eq_true rfl) dL_count_4 ⟨Nat.zero_le _, Nat.zero_le _⟩ hS (AC_ao hS.1) (fun H locs hP1 hS hk1 => ?_)
  have hP := wO_join hI hP hk1 hP1
  refine lv_i2l (v := r.toInt64) hx hb dL_count_7 rfl ?_
  refine stO hx hb hK hP hI hS dL_count_8 (fun H locs hP hS => ?_)
  refine lv_goto (tgt := 15) hx hb dL_count_9 (by decide) ?_
  refine lv_iconst (v := 0) hx hb dL_count_15 (by decide) ?_
  refine W.widen (k := 1) (n := 6) (by decide) (by decide) ?_
  exact W.iret (v := 0) hx hb hr (fun T hT hW => ⟨⟨0, (τ, vp_updL f 0 r.toInt64), rfl, ⟨rfl, rfl⟩, by rw [posO, hT]; exact hP⟩, hS.F hT⟩) hS.2.2 dL_count_16
set_option maxHeartbeats 4000000 in
set_option maxRecDepth 100000 in
theorem xL_count_3 (l : Launch) (hfl : l.stackTraces = false) (D : va_G) (y : Nat → ClassId) (a : Nat → Nat) (o : Nat) (t ts : Nat → Nat) (hI : AI (ao a o) 38) (sz : Nat) (f : Nat → Int64) (σ τ : St) (p1 : Int32) (hm : tX7_count σ p1 = some (3, τ)) : Met l yL_count zL_count { frames := 7, cells := 1, slots := 6, locals := 119 } (va_Pc [.ref (a 0), .int p1, .ref o] (preO D y a o t ts f σ sz)) (va_Qi (fun r' u => r' = 1 ∧ u = (τ, f)) (posO D y a o) (AC (ao a o) 38 sz)) 1 6 (AC (ao a o) 38 sz) := by
  refine va_MetW (cc := cL_count) (maxL := 4) (ret := (some .int)) (hh := [(0, 9, 12, 25)]) (by decide) rfl ?_
  intro p e s m args below meth c s₁ B hml hv
  obtain ⟨rfl, ⟨hsz, hP, hK, hF⟩, hE⟩ := hv
  have hx := B.exec
  have hb := B.bytes
  have hr := B.returns
  have hts := atoms_spec (ws := zL_count) B.pre
  have hown : s.vm.findClass RL = some m.cls := findClass_of_methodNamed B.named
  have hlocks := B.notSynchronized
  subst hsz
  have hS : va_S (AC (ao a o) 38 s.heap.size) s.heap s.heap [] := va_S.rf
  have hl := lv_entry ([.ref (a 0), .int p1, .ref o]) (n := 4) (Nat.le_of_ble_eq_true rfl)
  rw [lg_entry_eq]
  generalize (lg_sl ([.ref (a 0), .int p1, .ref o]) ++ List.replicate (4 - (lg_sl ([.ref (a 0), .int p1, .ref o])).length) Slot.unset).toArray = ls at hl ⊢
  have hl : lv_has ls 4 [(0, .ref (a 0)), (1, .int p1), (2, .ref o)] := hl
  refine lv_aload_n hx hb dL_count_0 rfl (lv_at hl 2 rfl) ?_
  refine lv_iconst (v := 0) hx hb dL_count_1 (by decide) ?_
  refine lv_aload_n hx hb dL_count_2 rfl (lv_at hl 0 rfl) ?_
  refine lv_iload_n hx hb dL_count_3 rfl (lv_at hl 1 rfl) ?_
  refine vx_calli (post := fun (_ : Int32) (_ : Unit) => False) (B := fun _ _ => True) (A1 := AC a 37 s.heap.size) (vx_runV (mc := 1) (ms := 6) (As := [.int p1]) (rest := [.int 0, .ref o]) ⟨hx, hb, hml, hown, hts⟩ (xX7_count l hfl D y a t ts (ao_I hI) (va_Qi (S := Unit) (fun _ _ => False) (fun _ _ => True) (AC a 37 s.heap.size)) _ σ τ p1 3 hm) (cwV 1 hts (gAV aM_L_57 aI_X7_count aS_X7_count aN_X7 aC_X7_count) rfl rfl rfl eX7_count ⟨Nat.le_of_ble_eq_true rfl, Nat.le_of_ble_eq_true rfl⟩) (preV_OE hK hP hF hE hS) rfl rfl hl.1 rfl (lv_room (Nat.le_of_ble_eq_true rfl)) dL_count_4 ⟨Nat.le_of_ble_eq_true rfl, Nat.le_of_ble_eq_true rfl⟩) hS (fun q _ h => AC_ao hS.1 q h) (AC_ao hS.1) (fun q _ h => AC_ao hS.1 q h) (fun E ce q9 u T H1 locs1 ht hvm hpx hBX hz hk1 hS hce hcv hcl => ?_) (fun _ _ _ _ _ _ _ h => h.elim)
  obtain ⟨rfl, hP1⟩ := hBX
  unfold posW at hP1
  rw [ht, hpx] at hP1
  have hP := wO_join hI hP hk1 hP1
  have htab := vx_table (x := yL_count) B (hts _ List.mem_cons_self)
  refine vx_catch hown [] ⟨0, 9, 12, 25⟩ [] (by rw [htab]; rfl) (fun _ h => absurd h List.not_mem_nil) (by decide) (by decide) (hts _ (List.mem_cons_of_mem _ xC3)) (va_Nw.use rfl hE.1.1.2.2) hce hcv hcl ?_
  refine lv_astore_n (lv' := [(3, .ref q9), (0, .ref (a 0)), (1, .int p1), (2, .ref o)]) hx hb dL_count_12 rfl hl (by decide) rfl (fun ls hl => ?_)
  refine lv_iconst (v := 1) hx hb dL_count_13 (by decide) ?_
  exact W.iret (v := 1) hx hb hr (fun T hT hW => ⟨⟨1, (τ, f), rfl, ⟨rfl, rfl⟩, by rw [posO, hT]; exact hP⟩, hS.F hT⟩) hS.2.2 dL_count_14
theorem eL_line : yL_line.cls ≠ "java/lang/invoke/MethodHandle" ∧ yL_line.cls ≠ "java/lang/invoke/VarHandle" ∧ (parseMethodDescriptor yL_line.desc).map (fun d => d.parameters.length) = some 4 := by decide +kernel
set_option maxHeartbeats 4000000 in
set_option maxRecDepth 100000 in
theorem kL_line (l : Launch) (D : va_G) (y : Nat → ClassId) (a : Nat → Nat) (o : Nat) (t ts : Nat → Nat) (hI : AI (ao a o) 38) (sz : Nat) (f : Nat → Int64) (σ τ : St) (p1 : Int32) (p2 : Int32) (r : Int32) (hm : mX7_line σ p1 p2 = some (r, τ)) : Met l yL_line zL_line { frames := 7, cells := 1, slots := 6, locals := 120 } (va_Pc [.ref (a 0), .int p1, .int p2, .ref o] (preO D y a o t ts f σ sz)) (va_Qi (fun r' u => r' = 0 ∧ u = (τ, vp_updL f 0 r.toInt64)) (posO D y a o) (AC (ao a o) 38 sz)) 1 6 (AC (ao a o) 38 sz) := by
  refine va_MetW (cc := cL_line) (maxL := 5) (ret := (some .int)) (hh := [(0, 10, 13, 25)]) (by decide) rfl ?_
  intro p e s m args below meth c s₁ B hml hv
  obtain ⟨rfl, ⟨hsz, hP, hK, hF⟩, hE⟩ := hv
  have hx := B.exec
  have hb := B.bytes
  have hr := B.returns
  have hts := atoms_spec (ws := zL_line) B.pre
  have hown : s.vm.findClass RL = some m.cls := findClass_of_methodNamed B.named
  have hlocks := B.notSynchronized
  subst hsz
  have hS : va_S (AC (ao a o) 38 s.heap.size) s.heap s.heap [] := va_S.rf
  have hl := lv_entry ([.ref (a 0), .int p1, .int p2, .ref o]) (n := 5) (Nat.le_of_ble_eq_true rfl)
  rw [lg_entry_eq]
  generalize (lg_sl ([.ref (a 0), .int p1, .int p2, .ref o]) ++ List.replicate (5 - (lg_sl ([.ref (a 0), .int p1, .int p2, .ref o])).length) Slot.unset).toArray = ls at hl ⊢
  have hl : lv_has ls 5 [(0, .ref (a 0)), (1, .int p1), (2, .int p2), (3, .ref o)] := hl
  refine lv_aload_n hx hb dL_line_0 rfl (lv_at hl 3 rfl) ?_
  refine lv_iconst (v := 0) hx hb dL_line_1 (by decide) ?_
  refine lv_aload_n hx hb dL_line_2 rfl (lv_at hl 0 rfl) ?_
  refine lv_iload_n hx hb dL_line_3 rfl (lv_at hl 1 rfl) ?_
  refine lv_iload_n hx hb dL_line_4 rfl (lv_at hl 2 rfl) ?_
  refine calV_i (As := [.int p1, .int p2]) (rest := [.int 0, .ref o]) ⟨hx, hb, hml, hown, hts⟩ (kX7_line l D y a t (ao_I hI) _ σ τ p1 p2 r hm) (cwV 2 hts (gAV aM_L_60 aI_X7_line aS_X7_line aN_X7 aC_X7_line) rfl rfl rfl eX7_line ⟨Nat.le_of_ble_eq_true rfl, Nat.le_of_ble_eq_true rfl⟩) (preV_O hK hP hF hS) rfl hl.1 rfl (Nat.le_of_ble_eq_true rfl) dL_line_5 ⟨Nat.zero_le _, Nat.zero_le _⟩ hS (AC_ao hS.1) (fun H locs hP1 hS hk1 => ?_)
  have hP := wO_join hI hP hk1 hP1
  refine lv_i2l (v := r.toInt64) hx hb dL_line_8 rfl ?_
  refine stO hx hb hK hP hI hS dL_line_9 (fun H locs hP hS => ?_)
  refine lv_goto (tgt := 17) hx hb dL_line_10 (by decide) ?_
  refine lv_iconst (v := 0) hx hb dL_line_17 (by decide) ?_
  refine W.widen (k := 1) (n := 6) (by decide) (by decide) ?_
  exact W.iret (v := 0) hx hb hr (fun T hT hW => ⟨⟨0, (τ, vp_updL f 0 r.toInt64), rfl, ⟨rfl, rfl⟩, by rw [posO, hT]; exact hP⟩, hS.F hT⟩) hS.2.2 dL_line_18
set_option maxHeartbeats 4000000 in
set_option maxRecDepth 100000 in
theorem xL_line_3 (l : Launch) (hfl : l.stackTraces = false) (D : va_G) (y : Nat → ClassId) (a : Nat → Nat) (o : Nat) (t ts : Nat → Nat) (hI : AI (ao a o) 38) (sz : Nat) (f : Nat → Int64) (σ τ : St) (p1 : Int32) (p2 : Int32) (hm : tX7_line σ p1 p2 = some (3, τ)) : Met l yL_line zL_line { frames := 7, cells := 1, slots := 6, locals := 120 } (va_Pc [.ref (a 0), .int p1, .int p2, .ref o] (preO D y a o t ts f σ sz)) (va_Qi (fun r' u => r' = 1 ∧ u = (τ, f)) (posO D y a o) (AC (ao a o) 38 sz)) 1 6 (AC (ao a o) 38 sz) := by
  refine va_MetW (cc := cL_line) (maxL := 5) (ret := (some .int)) (hh := [(0, 10, 13, 25)]) (by decide) rfl ?_
  intro p e s m args below meth c s₁ B hml hv
  obtain ⟨rfl, ⟨hsz, hP, hK, hF⟩, hE⟩ := hv
  have hx := B.exec
  have hb := B.bytes
  have hr := B.returns
  have hts := atoms_spec (ws := zL_line) B.pre
  have hown : s.vm.findClass RL = some m.cls := findClass_of_methodNamed B.named
  have hlocks := B.notSynchronized
  subst hsz
  have hS : va_S (AC (ao a o) 38 s.heap.size) s.heap s.heap [] := va_S.rf
  have hl := lv_entry ([.ref (a 0), .int p1, .int p2, .ref o]) (n := 5) (Nat.le_of_ble_eq_true rfl)
  rw [lg_entry_eq]
  generalize (lg_sl ([.ref (a 0), .int p1, .int p2, .ref o]) ++ List.replicate (5 - (lg_sl ([.ref (a 0), .int p1, .int p2, .ref o])).length) Slot.unset).toArray = ls at hl ⊢
  have hl : lv_has ls 5 [(0, .ref (a 0)), (1, .int p1), (2, .int p2), (3, .ref o)] := hl
  refine lv_aload_n hx hb dL_line_0 rfl (lv_at hl 3 rfl) ?_
  refine lv_iconst (v := 0) hx hb dL_line_1 (by decide) ?_
  refine lv_aload_n hx hb dL_line_2 rfl (lv_at hl 0 rfl) ?_
  refine lv_iload_n hx hb dL_line_3 rfl (lv_at hl 1 rfl) ?_
  refine lv_iload_n hx hb dL_line_4 rfl (lv_at hl 2 rfl) ?_
  refine vx_calli (post := fun (_ : Int32) (_ : Unit) => False) (B := fun _ _ => True) (A1 := AC a 37 s.heap.size) (vx_runV (mc := 1) (ms := 6) (As := [.int p1, .int p2]) (rest := [.int 0, .ref o]) ⟨hx, hb, hml, hown, hts⟩ (xX7_line l hfl D y a t ts (ao_I hI) (va_Qi (S := Unit) (fun _ _ => False) (fun _ _ => True) (AC a 37 s.heap.size)) _ σ τ p1 p2 3 hm) (cwV 2 hts (gAV aM_L_60 aI_X7_line aS_X7_line aN_X7 aC_X7_line) rfl rfl rfl eX7_line ⟨Nat.le_of_ble_eq_true rfl, Nat.le_of_ble_eq_true rfl⟩) (preV_OE hK hP hF hE hS) rfl rfl hl.1 rfl (lv_room (Nat.le_of_ble_eq_true rfl)) dL_line_5 ⟨Nat.le_of_ble_eq_true rfl, Nat.le_of_ble_eq_true rfl⟩) hS (fun q _ h => AC_ao hS.1 q h) (AC_ao hS.1) (fun q _ h => AC_ao hS.1 q h) (fun E ce q9 u T H1 locs1 ht hvm hpx hBX hz hk1 hS hce hcv hcl => ?_) (fun _ _ _ _ _ _ _ h => h.elim)
  obtain ⟨rfl, hP1⟩ := hBX
  unfold posW at hP1
  rw [ht, hpx] at hP1
  have hP := wO_join hI hP hk1 hP1
  have htab := vx_table (x := yL_line) B (hts _ List.mem_cons_self)
  refine vx_catch hown [] ⟨0, 10, 13, 25⟩ [] (by rw [htab]; rfl) (fun _ h => absurd h List.not_mem_nil) (by decide) (by decide) (hts _ (List.mem_cons_of_mem _ xC3)) (va_Nw.use rfl hE.1.1.2.2) hce hcv hcl ?_
  refine lv_astore (lv' := [(4, .ref q9), (0, .ref (a 0)), (1, .int p1), (2, .int p2), (3, .ref o)]) hx hb dL_line_13 hl (by decide) rfl (fun ls hl => ?_)
  refine lv_iconst (v := 1) hx hb dL_line_15 (by decide) ?_
  exact W.iret (v := 1) hx hb hr (fun T hT hW => ⟨⟨1, (τ, f), rfl, ⟨rfl, rfl⟩, by rw [posO, hT]; exact hP⟩, hS.F hT⟩) hS.2.2 dL_line_16
theorem eL_box : yL_box.cls ≠ "java/lang/invoke/MethodHandle" ∧ yL_box.cls ≠ "java/lang/invoke/VarHandle" ∧ (parseMethodDescriptor yL_box.desc).map (fun d => d.parameters.length) = some 4 := by decide +kernel
set_option maxHeartbeats 4000000 in
set_option maxRecDepth 100000 in
theorem kL_box (l : Launch) (D : va_G) (y : Nat → ClassId) (a : Nat → Nat) (o : Nat) (t ts : Nat → Nat) (hI : AI (ao a o) 38) (sz : Nat) (f : Nat → Int64) (σ : St) (p1 : Int32) (p2 : Int32) (r : Int32) (hm : mX7_box σ p1 p2 = some r) : Met l yL_box zL_box { frames := 7, cells := 1, slots := 6, locals := 120 } (va_Pc [.ref (a 0), .int p1, .int p2, .ref o] (preO D y a o t ts f σ sz)) (va_Qi (fun r' u => r' = 0 ∧ u = (σ, vp_updL f 0 r.toInt64)) (posO D y a o) (AC (ao a o) 38 sz)) 1 6 (AC (ao a o) 38 sz) := by
  refine va_MetW (cc := cL_box) (maxL := 5) (ret := (some .int)) (hh := [(0, 10, 13, 25)]) (by decide) rfl ?_
  intro p e s m args below meth c s₁ B hml hv
  obtain ⟨rfl, ⟨hsz, hP, hK, hF⟩, hE⟩ := hv
  have hx := B.exec
  have hb := B.bytes
  have hr := B.returns
  have hts := atoms_spec (ws := zL_box) B.pre
  have hown : s.vm.findClass RL = some m.cls := findClass_of_methodNamed B.named
  have hlocks := B.notSynchronized
  subst hsz
  have hS : va_S (AC (ao a o) 38 s.heap.size) s.heap s.heap [] := va_S.rf
  have hl := lv_entry ([.ref (a 0), .int p1, .int p2, .ref o]) (n := 5) (Nat.le_of_ble_eq_true rfl)
  rw [lg_entry_eq]
  generalize (lg_sl ([.ref (a 0), .int p1, .int p2, .ref o]) ++ List.replicate (5 - (lg_sl ([.ref (a 0), .int p1, .int p2, .ref o])).length) Slot.unset).toArray = ls at hl ⊢
  have hl : lv_has ls 5 [(0, .ref (a 0)), (1, .int p1), (2, .int p2), (3, .ref o)] := hl
  refine lv_aload_n hx hb dL_box_0 rfl (lv_at hl 3 rfl) ?_
  refine lv_iconst (v := 0) hx hb dL_box_1 (by decide) ?_
  refine lv_aload_n hx hb dL_box_2 rfl (lv_at hl 0 rfl) ?_
  refine lv_iload_n hx hb dL_box_3 rfl (lv_at hl 1 rfl) ?_
  refine lv_iload_n hx hb dL_box_4 rfl (lv_at hl 2 rfl) ?_
  refine calV_i (As := [.int p1, .int p2]) (rest := [.int 0, .ref o]) ⟨hx, hb, hml, hown, hts⟩ (kX7_box l D y a t (ao_I hI) _ σ p1 p2 r hm) (cwV 2 hts (gAV aM_L_63 aI_X7_box aS_X7_box aN_X7 aC_X7_box) rfl rfl rfl eX7_box ⟨Nat.le_of_ble_eq_true rfl, Nat.le_of_ble_eq_true rfl⟩) (preV_O hK hP hF hS) rfl hl.1 rfl (Nat.le_of_ble_eq_true rfl) dL_box_5 ⟨Nat.zero_le _, Nat.zero_le _⟩ hS (AC_ao hS.1) (fun H locs hP1 hS hk1 => ?_)
  have hP := wO_join hI hP hk1 hP1
  refine lv_i2l (v := r.toInt64) hx hb dL_box_8 rfl ?_
  refine stO hx hb hK hP hI hS dL_box_9 (fun H locs hP hS => ?_)
  refine lv_goto (tgt := 17) hx hb dL_box_10 (by decide) ?_
  refine lv_iconst (v := 0) hx hb dL_box_17 (by decide) ?_
  refine W.widen (k := 1) (n := 6) (by decide) (by decide) ?_
  exact W.iret (v := 0) hx hb hr (fun T hT hW => ⟨⟨0, (σ, vp_updL f 0 r.toInt64), rfl, ⟨rfl, rfl⟩, by rw [posO, hT]; exact hP⟩, hS.F hT⟩) hS.2.2 dL_box_18
set_option maxHeartbeats 4000000 in
set_option maxRecDepth 100000 in
theorem xL_box_3 (l : Launch) (hfl : l.stackTraces = false) (D : va_G) (y : Nat → ClassId) (a : Nat → Nat) (o : Nat) (t ts : Nat → Nat) (hI : AI (ao a o) 38) (sz : Nat) (f : Nat → Int64) (σ : St) (p1 : Int32) (p2 : Int32) (hm : tX7_box σ p1 p2 = some 3) : Met l yL_box zL_box { frames := 7, cells := 1, slots := 6, locals := 120 } (va_Pc [.ref (a 0), .int p1, .int p2, .ref o] (preO D y a o t ts f σ sz)) (va_Qi (fun r' u => r' = 1 ∧ u = (σ, f)) (posO D y a o) (AC (ao a o) 38 sz)) 1 6 (AC (ao a o) 38 sz) := by
  refine va_MetW (cc := cL_box) (maxL := 5) (ret := (some .int)) (hh := [(0, 10, 13, 25)]) (by decide) rfl ?_
  intro p e s m args below meth c s₁ B hml hv
  obtain ⟨rfl, ⟨hsz, hP, hK, hF⟩, hE⟩ := hv
  have hx := B.exec
  have hb := B.bytes
  have hr := B.returns
  have hts := atoms_spec (ws := zL_box) B.pre
  have hown : s.vm.findClass RL = some m.cls := findClass_of_methodNamed B.named
  have hlocks := B.notSynchronized
  subst hsz
  have hS : va_S (AC (ao a o) 38 s.heap.size) s.heap s.heap [] := va_S.rf
  have hl := lv_entry ([.ref (a 0), .int p1, .int p2, .ref o]) (n := 5) (Nat.le_of_ble_eq_true rfl)
  rw [lg_entry_eq]
  generalize (lg_sl ([.ref (a 0), .int p1, .int p2, .ref o]) ++ List.replicate (5 - (lg_sl ([.ref (a 0), .int p1, .int p2, .ref o])).length) Slot.unset).toArray = ls at hl ⊢
  have hl : lv_has ls 5 [(0, .ref (a 0)), (1, .int p1), (2, .int p2), (3, .ref o)] := hl
  refine lv_aload_n hx hb dL_box_0 rfl (lv_at hl 3 rfl) ?_
  refine lv_iconst (v := 0) hx hb dL_box_1 (by decide) ?_
  refine lv_aload_n hx hb dL_box_2 rfl (lv_at hl 0 rfl) ?_
  refine lv_iload_n hx hb dL_box_3 rfl (lv_at hl 1 rfl) ?_
  refine lv_iload_n hx hb dL_box_4 rfl (lv_at hl 2 rfl) ?_
  refine vx_calli (post := fun (_ : Int32) (_ : Unit) => False) (B := fun _ _ => True) (A1 := AC a 37 s.heap.size) (vx_runV (mc := 1) (ms := 6) (As := [.int p1, .int p2]) (rest := [.int 0, .ref o]) ⟨hx, hb, hml, hown, hts⟩ (xX7_box l hfl D y a t ts (ao_I hI) (va_Qi (S := Unit) (fun _ _ => False) (fun _ _ => True) (AC a 37 s.heap.size)) _ σ p1 p2 3 hm) (cwV 2 hts (gAV aM_L_63 aI_X7_box aS_X7_box aN_X7 aC_X7_box) rfl rfl rfl eX7_box ⟨Nat.le_of_ble_eq_true rfl, Nat.le_of_ble_eq_true rfl⟩) (preV_OE hK hP hF hE hS) rfl rfl hl.1 rfl (lv_room (Nat.le_of_ble_eq_true rfl)) dL_box_5 ⟨Nat.le_of_ble_eq_true rfl, Nat.le_of_ble_eq_true rfl⟩) hS (fun q _ h => AC_ao hS.1 q h) (AC_ao hS.1) (fun q _ h => AC_ao hS.1 q h) (fun E ce q9 u T H1 locs1 ht hvm hpx hBX hz hk1 hS hce hcv hcl => ?_) (fun _ _ _ _ _ _ _ h => h.elim)
  obtain ⟨rfl, hP1⟩ := hBX
  unfold posW at hP1
  rw [ht, hpx] at hP1
  have hP := wO_join hI hP hk1 hP1
  have htab := vx_table (x := yL_box) B (hts _ List.mem_cons_self)
  refine vx_catch hown [] ⟨0, 10, 13, 25⟩ [] (by rw [htab]; rfl) (fun _ h => absurd h List.not_mem_nil) (by decide) (by decide) (hts _ (List.mem_cons_of_mem _ xC3)) (va_Nw.use rfl hE.1.1.2.2) hce hcv hcl ?_
  refine lv_astore (lv' := [(4, .ref q9), (0, .ref (a 0)), (1, .int p1), (2, .int p2), (3, .ref o)]) hx hb dL_box_13 hl (by decide) rfl (fun ls hl => ?_)
  refine lv_iconst (v := 1) hx hb dL_box_15 (by decide) ?_
  exact W.iret (v := 1) hx hb hr (fun T hT hW => ⟨⟨1, (σ, f), rfl, ⟨rfl, rfl⟩, by rw [posO, hT]; exact hP⟩, hS.F hT⟩) hS.2.2 dL_box_16
theorem eL_fails : yL_fails.cls ≠ "java/lang/invoke/MethodHandle" ∧ yL_fails.cls ≠ "java/lang/invoke/VarHandle" ∧ (parseMethodDescriptor yL_fails.desc).map (fun d => d.parameters.length) = some 3 := by decide +kernel
set_option maxHeartbeats 4000000 in
set_option maxRecDepth 100000 in
theorem kL_fails (l : Launch) (D : va_G) (y : Nat → ClassId) (a : Nat → Nat) (o : Nat) (t ts : Nat → Nat) (hI : AI (ao a o) 38) (sz : Nat) (f : Nat → Int64) (σ : St) (p1 : Int32) (r : Int32) (hm : mX7_fails σ p1 = some r) : Met l yL_fails zL_fails { frames := 7, cells := 1, slots := 6, locals := 119 } (va_Pc [.ref (a 0), .int p1, .ref o] (preO D y a o t ts f σ sz)) (va_Qi (fun r' u => r' = 0 ∧ u = (σ, vp_updL f 0 r.toInt64)) (posO D y a o) (AC (ao a o) 38 sz)) 1 6 (AC (ao a o) 38 sz) := by
  refine va_MetW (cc := cL_fails) (maxL := 4) (ret := (some .int)) (hh := [(0, 9, 12, 25)]) (by decide) rfl ?_
  intro p e s m args below meth c s₁ B hml hv
  obtain ⟨rfl, ⟨hsz, hP, hK, hF⟩, hE⟩ := hv
  have hx := B.exec
  have hb := B.bytes
  have hr := B.returns
  have hts := atoms_spec (ws := zL_fails) B.pre
  have hown : s.vm.findClass RL = some m.cls := findClass_of_methodNamed B.named
  have hlocks := B.notSynchronized
  subst hsz
  have hS : va_S (AC (ao a o) 38 s.heap.size) s.heap s.heap [] := va_S.rf
  have hl := lv_entry ([.ref (a 0), .int p1, .ref o]) (n := 4) (Nat.le_of_ble_eq_true rfl)
  rw [lg_entry_eq]
  generalize (lg_sl ([.ref (a 0), .int p1, .ref o]) ++ List.replicate (4 - (lg_sl ([.ref (a 0), .int p1, .ref o])).length) Slot.unset).toArray = ls at hl ⊢
  have hl : lv_has ls 4 [(0, .ref (a 0)), (1, .int p1), (2, .ref o)] := hl
  refine lv_aload_n hx hb dL_fails_0 rfl (lv_at hl 2 rfl) ?_
  refine lv_iconst (v := 0) hx hb dL_fails_1 (by decide) ?_
  refine lv_aload_n hx hb dL_fails_2 rfl (lv_at hl 0 rfl) ?_
  refine lv_iload_n hx hb dL_fails_3 rfl (lv_at hl 1 rfl) ?_
  refine calV_i (As := [.int p1]) (rest := [.int 0, .ref o]) ⟨hx, hb, hml, hown, hts⟩ (kX7_fails l D y a t (ao_I hI) _ σ p1 r hm) (cwV 1 hts (gAV aM_L_66 aI_X7_fails aS_X7_fails aN_X7 aC_X7_fails) rfl rfl rfl eX7_fails ⟨Nat.le_of_ble_eq_true rfl, Nat.le_of_ble_eq_true rfl⟩) (preV_O hK hP hF hS) rfl hl.1 rfl (Nat.le_of_ble_eq_true rfl) dL_fails_4 ⟨Nat.zero_le _, Nat.zero_le _⟩ hS (AC_ao hS.1) (fun H locs hP1 hS hk1 => ?_)
  have hP := wO_join hI hP hk1 hP1
  refine lv_i2l (v := r.toInt64) hx hb dL_fails_7 rfl ?_
  refine stO hx hb hK hP hI hS dL_fails_8 (fun H locs hP hS => ?_)
  refine lv_goto (tgt := 15) hx hb dL_fails_9 (by decide) ?_
  refine lv_iconst (v := 0) hx hb dL_fails_15 (by decide) ?_
  refine W.widen (k := 1) (n := 6) (by decide) (by decide) ?_
  exact W.iret (v := 0) hx hb hr (fun T hT hW => ⟨⟨0, (σ, vp_updL f 0 r.toInt64), rfl, ⟨rfl, rfl⟩, by rw [posO, hT]; exact hP⟩, hS.F hT⟩) hS.2.2 dL_fails_16
set_option maxHeartbeats 4000000 in
set_option maxRecDepth 100000 in
theorem xL_fails_3 (l : Launch) (hfl : l.stackTraces = false) (D : va_G) (y : Nat → ClassId) (a : Nat → Nat) (o : Nat) (t ts : Nat → Nat) (hI : AI (ao a o) 38) (sz : Nat) (f : Nat → Int64) (σ : St) (p1 : Int32) (hm : tX7_fails σ p1 = some 3) : Met l yL_fails zL_fails { frames := 7, cells := 1, slots := 6, locals := 119 } (va_Pc [.ref (a 0), .int p1, .ref o] (preO D y a o t ts f σ sz)) (va_Qi (fun r' u => r' = 1 ∧ u = (σ, f)) (posO D y a o) (AC (ao a o) 38 sz)) 1 6 (AC (ao a o) 38 sz) := by
  refine va_MetW (cc := cL_fails) (maxL := 4) (ret := (some .int)) (hh := [(0, 9, 12, 25)]) (by decide) rfl ?_
  intro p e s m args below meth c s₁ B hml hv
  obtain ⟨rfl, ⟨hsz, hP, hK, hF⟩, hE⟩ := hv
  have hx := B.exec
  have hb := B.bytes
  have hr := B.returns
  have hts := atoms_spec (ws := zL_fails) B.pre
  have hown : s.vm.findClass RL = some m.cls := findClass_of_methodNamed B.named
  have hlocks := B.notSynchronized
  subst hsz
  have hS : va_S (AC (ao a o) 38 s.heap.size) s.heap s.heap [] := va_S.rf
  have hl := lv_entry ([.ref (a 0), .int p1, .ref o]) (n := 4) (Nat.le_of_ble_eq_true rfl)
  rw [lg_entry_eq]
  generalize (lg_sl ([.ref (a 0), .int p1, .ref o]) ++ List.replicate (4 - (lg_sl ([.ref (a 0), .int p1, .ref o])).length) Slot.unset).toArray = ls at hl ⊢
  have hl : lv_has ls 4 [(0, .ref (a 0)), (1, .int p1), (2, .ref o)] := hl
  refine lv_aload_n hx hb dL_fails_0 rfl (lv_at hl 2 rfl) ?_
  refine lv_iconst (v := 0) hx hb dL_fails_1 (by decide) ?_
  refine lv_aload_n hx hb dL_fails_2 rfl (lv_at hl 0 rfl) ?_
  refine lv_iload_n hx hb dL_fails_3 rfl (lv_at hl 1 rfl) ?_
  refine vx_calli (post := fun (_ : Int32) (_ : Unit) => False) (B := fun _ _ => True) (A1 := AC a 37 s.heap.size) (vx_runV (mc := 1) (ms := 6) (As := [.int p1]) (rest := [.int 0, .ref o]) ⟨hx, hb, hml, hown, hts⟩ (xX7_fails l hfl D y a t ts (ao_I hI) (va_Qi (S := Unit) (fun _ _ => False) (fun _ _ => True) (AC a 37 s.heap.size)) _ σ p1 3 hm) (cwV 1 hts (gAV aM_L_66 aI_X7_fails aS_X7_fails aN_X7 aC_X7_fails) rfl rfl rfl eX7_fails ⟨Nat.le_of_ble_eq_true rfl, Nat.le_of_ble_eq_true rfl⟩) (preV_OE hK hP hF hE hS) rfl rfl hl.1 rfl (lv_room (Nat.le_of_ble_eq_true rfl)) dL_fails_4 ⟨Nat.le_of_ble_eq_true rfl, Nat.le_of_ble_eq_true rfl⟩) hS (fun q _ h => AC_ao hS.1 q h) (AC_ao hS.1) (fun q _ h => AC_ao hS.1 q h) (fun E ce q9 u T H1 locs1 ht hvm hpx hBX hz hk1 hS hce hcv hcl => ?_) (fun _ _ _ _ _ _ _ h => h.elim)
  obtain ⟨rfl, hP1⟩ := hBX
  unfold posW at hP1
  rw [ht, hpx] at hP1
  have hP := wO_join hI hP hk1 hP1
  have htab := vx_table (x := yL_fails) B (hts _ List.mem_cons_self)
  refine vx_catch hown [] ⟨0, 9, 12, 25⟩ [] (by rw [htab]; rfl) (fun _ h => absurd h List.not_mem_nil) (by decide) (by decide) (hts _ (List.mem_cons_of_mem _ xC3)) (va_Nw.use rfl hE.1.1.2.2) hce hcv hcl ?_
  refine lv_astore_n (lv' := [(3, .ref q9), (0, .ref (a 0)), (1, .int p1), (2, .ref o)]) hx hb dL_fails_12 rfl hl (by decide) rfl (fun ls hl => ?_)
  refine lv_iconst (v := 1) hx hb dL_fails_13 (by decide) ?_
  exact W.iret (v := 1) hx hb hr (fun T hT hW => ⟨⟨1, (σ, f), rfl, ⟨rfl, rfl⟩, by rw [posO, hT]; exact hP⟩, hS.F hT⟩) hS.2.2 dL_fails_14
theorem eL_hint : yL_hint.cls ≠ "java/lang/invoke/MethodHandle" ∧ yL_hint.cls ≠ "java/lang/invoke/VarHandle" ∧ (parseMethodDescriptor yL_hint.desc).map (fun d => d.parameters.length) = some 4 := by decide +kernel
set_option maxHeartbeats 4000000 in
set_option maxRecDepth 100000 in
theorem kL_hint (l : Launch) (D : va_G) (y : Nat → ClassId) (a : Nat → Nat) (o : Nat) (t ts : Nat → Nat) (hI : AI (ao a o) 38) (sz : Nat) (f : Nat → Int64) (σ τ : St) (p1 : Int32) (p2 : Int32) (r : Int32) (hm : mX7_hint σ p1 p2 = some (r, τ)) : Met l yL_hint zL_hint { frames := 7, cells := 1, slots := 6, locals := 172 } (va_Pc [.ref (a 0), .int p1, .int p2, .ref o] (preO D y a o t ts f σ sz)) (va_Qi (fun r' u => r' = 0 ∧ u = (τ, vp_updL f 0 r.toInt64)) (posO D y a o) (AC (ao a o) 38 sz)) 1 6 (AC (ao a o) 38 sz) := by
  refine va_MetW (cc := cL_hint) (maxL := 5) (ret := (some .int)) (hh := [(0, 10, 13, 25)]) (by decide) rfl ?_
  intro p e s m args below meth c s₁ B hml hv
  obtain ⟨rfl, ⟨hsz, hP, hK, hF⟩, hE⟩ := hv
  have hx := B.exec
  have hb := B.bytes
  have hr := B.returns
  have hts := atoms_spec (ws := zL_hint) B.pre
  have hown : s.vm.findClass RL = some m.cls := findClass_of_methodNamed B.named
  have hlocks := B.notSynchronized
  subst hsz
  have hS : va_S (AC (ao a o) 38 s.heap.size) s.heap s.heap [] := va_S.rf
  have hl := lv_entry ([.ref (a 0), .int p1, .int p2, .ref o]) (n := 5) (Nat.le_of_ble_eq_true rfl)
  rw [lg_entry_eq]
  generalize (lg_sl ([.ref (a 0), .int p1, .int p2, .ref o]) ++ List.replicate (5 - (lg_sl ([.ref (a 0), .int p1, .int p2, .ref o])).length) Slot.unset).toArray = ls at hl ⊢
  have hl : lv_has ls 5 [(0, .ref (a 0)), (1, .int p1), (2, .int p2), (3, .ref o)] := hl
  refine lv_aload_n hx hb dL_hint_0 rfl (lv_at hl 3 rfl) ?_
  refine lv_iconst (v := 0) hx hb dL_hint_1 (by decide) ?_
  refine lv_aload_n hx hb dL_hint_2 rfl (lv_at hl 0 rfl) ?_
  refine lv_iload_n hx hb dL_hint_3 rfl (lv_at hl 1 rfl) ?_
  refine lv_iload_n hx hb dL_hint_4 rfl (lv_at hl 2 rfl) ?_
  refine calV_i (As := [.int p1, .int p2]) (rest := [.int 0, .ref o]) ⟨hx, hb, hml, hown, hts⟩ (kX7_hint l D y a t (ao_I hI) _ σ τ p1 p2 r hm) (cwV 2 hts (gAV aM_L_69 aI_X7_hint aS_X7_hint aN_X7 aC_X7_hint) rfl rfl rfl eX7_hint ⟨Nat.le_of_ble_eq_true rfl, Nat.le_of_ble_eq_true rfl⟩) (preV_O hK hP hF hS) rfl hl.1 rfl (Nat.le_of_ble_eq_true rfl) dL_hint_5 ⟨Nat.zero_le _, Nat.zero_le _⟩ hS (AC_ao hS.1) (fun H locs hP1 hS hk1 => ?_)
  have hP := wO_join hI hP hk1 hP1
  refine lv_i2l (v := r.toInt64) hx hb dL_hint_8 rfl ?_
  refine stO hx hb hK hP hI hS dL_hint_9 (fun H locs hP hS => ?_)
  refine lv_goto (tgt := 17) hx hb dL_hint_10 (by decide) ?_
  refine lv_iconst (v := 0) hx hb dL_hint_17 (by decide) ?_
  refine W.widen (k := 1) (n := 6) (by decide) (by decide) ?_
  exact W.iret (v := 0) hx hb hr (fun T hT hW => ⟨⟨0, (τ, vp_updL f 0 r.toInt64), rfl, ⟨rfl, rfl⟩, by rw [posO, hT]; exact hP⟩, hS.F hT⟩) hS.2.2 dL_hint_18
set_option maxHeartbeats 4000000 in
set_option maxRecDepth 100000 in
theorem xL_hint_3 (l : Launch) (hfl : l.stackTraces = false) (D : va_G) (y : Nat → ClassId) (a : Nat → Nat) (o : Nat) (t ts : Nat → Nat) (hI : AI (ao a o) 38) (sz : Nat) (f : Nat → Int64) (σ τ : St) (p1 : Int32) (p2 : Int32) (hm : tX7_hint σ p1 p2 = some (3, τ)) : Met l yL_hint zL_hint { frames := 7, cells := 1, slots := 6, locals := 172 } (va_Pc [.ref (a 0), .int p1, .int p2, .ref o] (preO D y a o t ts f σ sz)) (va_Qi (fun r' u => r' = 1 ∧ u = (τ, f)) (posO D y a o) (AC (ao a o) 38 sz)) 1 6 (AC (ao a o) 38 sz) := by
  refine va_MetW (cc := cL_hint) (maxL := 5) (ret := (some .int)) (hh := [(0, 10, 13, 25)]) (by decide) rfl ?_
  intro p e s m args below meth c s₁ B hml hv
  obtain ⟨rfl, ⟨hsz, hP, hK, hF⟩, hE⟩ := hv
  have hx := B.exec
  have hb := B.bytes
  have hr := B.returns
  have hts := atoms_spec (ws := zL_hint) B.pre
  have hown : s.vm.findClass RL = some m.cls := findClass_of_methodNamed B.named
  have hlocks := B.notSynchronized
  subst hsz
  have hS : va_S (AC (ao a o) 38 s.heap.size) s.heap s.heap [] := va_S.rf
  have hl := lv_entry ([.ref (a 0), .int p1, .int p2, .ref o]) (n := 5) (Nat.le_of_ble_eq_true rfl)
  rw [lg_entry_eq]
  generalize (lg_sl ([.ref (a 0), .int p1, .int p2, .ref o]) ++ List.replicate (5 - (lg_sl ([.ref (a 0), .int p1, .int p2, .ref o])).length) Slot.unset).toArray = ls at hl ⊢
  have hl : lv_has ls 5 [(0, .ref (a 0)), (1, .int p1), (2, .int p2), (3, .ref o)] := hl
  refine lv_aload_n hx hb dL_hint_0 rfl (lv_at hl 3 rfl) ?_
  refine lv_iconst (v := 0) hx hb dL_hint_1 (by decide) ?_
  refine lv_aload_n hx hb dL_hint_2 rfl (lv_at hl 0 rfl) ?_
  refine lv_iload_n hx hb dL_hint_3 rfl (lv_at hl 1 rfl) ?_
  refine lv_iload_n hx hb dL_hint_4 rfl (lv_at hl 2 rfl) ?_
  refine vx_calli (post := fun (_ : Int32) (_ : Unit) => False) (B := fun _ _ => True) (A1 := AC a 37 s.heap.size) (vx_runV (mc := 1) (ms := 6) (As := [.int p1, .int p2]) (rest := [.int 0, .ref o]) ⟨hx, hb, hml, hown, hts⟩ (xX7_hint l hfl D y a t ts (ao_I hI) (va_Qi (S := Unit) (fun _ _ => False) (fun _ _ => True) (AC a 37 s.heap.size)) _ σ τ p1 p2 3 hm) (cwV 2 hts (gAV aM_L_69 aI_X7_hint aS_X7_hint aN_X7 aC_X7_hint) rfl rfl rfl eX7_hint ⟨Nat.le_of_ble_eq_true rfl, Nat.le_of_ble_eq_true rfl⟩) (preV_OE hK hP hF hE hS) rfl rfl hl.1 rfl (lv_room (Nat.le_of_ble_eq_true rfl)) dL_hint_5 ⟨Nat.le_of_ble_eq_true rfl, Nat.le_of_ble_eq_true rfl⟩) hS (fun q _ h => AC_ao hS.1 q h) (AC_ao hS.1) (fun q _ h => AC_ao hS.1 q h) (fun E ce q9 u T H1 locs1 ht hvm hpx hBX hz hk1 hS hce hcv hcl => ?_) (fun _ _ _ _ _ _ _ h => h.elim)
  obtain ⟨rfl, hP1⟩ := hBX
  unfold posW at hP1
  rw [ht, hpx] at hP1
  have hP := wO_join hI hP hk1 hP1
  have htab := vx_table (x := yL_hint) B (hts _ List.mem_cons_self)
  refine vx_catch hown [] ⟨0, 10, 13, 25⟩ [] (by rw [htab]; rfl) (fun _ h => absurd h List.not_mem_nil) (by decide) (by decide) (hts _ (List.mem_cons_of_mem _ xC3)) (va_Nw.use rfl hE.1.1.2.2) hce hcv hcl ?_
  refine lv_astore (lv' := [(4, .ref q9), (0, .ref (a 0)), (1, .int p1), (2, .int p2), (3, .ref o)]) hx hb dL_hint_13 hl (by decide) rfl (fun ls hl => ?_)
  refine lv_iconst (v := 1) hx hb dL_hint_15 (by decide) ?_
  exact W.iret (v := 1) hx hb hr (fun T hT hW => ⟨⟨1, (τ, f), rfl, ⟨rfl, rfl⟩, by rw [posO, hT]; exact hP⟩, hS.F hT⟩) hS.2.2 dL_hint_16
theorem eL_end : yL_end.cls ≠ "java/lang/invoke/MethodHandle" ∧ yL_end.cls ≠ "java/lang/invoke/VarHandle" ∧ (parseMethodDescriptor yL_end.desc).map (fun d => d.parameters.length) = some 2 := by decide +kernel
set_option maxHeartbeats 4000000 in
set_option maxRecDepth 100000 in
theorem kL_end (l : Launch) (D : va_G) (y : Nat → ClassId) (a : Nat → Nat) (o : Nat) (t ts : Nat → Nat) (hI : AI (ao a o) 38) (sz : Nat) (f : Nat → Int64) (σ τ : St) (r : Int32) (hm : mX7_end σ = some (r, τ)) : Met l yL_end zL_end { frames := 7, cells := 1, slots := 6, locals := 123 } (va_Pc [.ref (a 0), .ref o] (preO D y a o t ts f σ sz)) (va_Qi (fun r' u => r' = 0 ∧ u = (τ, vp_updL f 0 r.toInt64)) (posO D y a o) (AC (ao a o) 38 sz)) 1 6 (AC (ao a o) 38 sz) := by
  refine va_MetW (cc := cL_end) (maxL := 3) (ret := (some .int)) (hh := [(0, 8, 11, 13)]) (by decide) rfl ?_
  intro p e s m args below meth c s₁ B hml hv
  obtain ⟨rfl, ⟨hsz, hP, hK, hF⟩, hE⟩ := hv
  have hx := B.exec
  have hb := B.bytes
  have hr := B.returns
  have hts := atoms_spec (ws := zL_end) B.pre
  have hown : s.vm.findClass RL = some m.cls := findClass_of_methodNamed B.named
  have hlocks := B.notSynchronized
  subst hsz
  have hS : va_S (AC (ao a o) 38 s.heap.size) s.heap s.heap [] := va_S.rf
  have hl := lv_entry ([.ref (a 0), .ref o]) (n := 3) (Nat.le_of_ble_eq_true rfl)
  rw [lg_entry_eq]
  generalize (lg_sl ([.ref (a 0), .ref o]) ++ List.replicate (3 - (lg_sl ([.ref (a 0), .ref o])).length) Slot.unset).toArray = ls at hl ⊢
  have hl : lv_has ls 3 [(0, .ref (a 0)), (1, .ref o)] := hl
  refine lv_aload_n hx hb dL_end_0 rfl (lv_at hl 1 rfl) ?_
  refine lv_iconst (v := 0) hx hb dL_end_1 (by decide) ?_
  refine lv_aload_n hx hb dL_end_2 rfl (lv_at hl 0 rfl) ?_
  refine calV_i (As := []) (rest := [.int 0, .ref o]) ⟨hx, hb, hml, hown, hts⟩ (kX7_end l D y a t (ao_I hI) _ σ τ r hm) (cwV 0 hts (gAV aM_L_72 aI_X7_end aS_X7_end aN_X7 aC_X7_end) rfl rfl rfl eX7_end ⟨Nat.le_of_ble_eq_true rfl, Nat.le_of_ble_eq_true rfl⟩) (preV_O hK hP hF hS) rfl hl.1 rfl (Nat.le_of_ble_eq_true rfl) dL_end_3 ⟨Nat.zero_le _, Nat.zero_le _⟩ hS (AC_ao hS.1) (fun H locs hP1 hS hk1 => ?_)
  have hP := wO_join hI hP hk1 hP1
  refine lv_i2l (v := r.toInt64) hx hb dL_end_6 rfl ?_
  refine stO hx hb hK hP hI hS dL_end_7 (fun H locs hP hS => ?_)
  refine lv_goto (tgt := 14) hx hb dL_end_8 (by decide) ?_
  refine lv_iconst (v := 0) hx hb dL_end_14 (by decide) ?_
  refine W.widen (k := 1) (n := 6) (by decide) (by decide) ?_
  exact W.iret (v := 0) hx hb hr (fun T hT hW => ⟨⟨0, (τ, vp_updL f 0 r.toInt64), rfl, ⟨rfl, rfl⟩, by rw [posO, hT]; exact hP⟩, hS.F hT⟩) hS.2.2 dL_end_15
set_option maxHeartbeats 4000000 in
set_option maxRecDepth 100000 in
theorem xL_end_1 (l : Launch) (hfl : l.stackTraces = false) (D : va_G) (y : Nat → ClassId) (a : Nat → Nat) (o : Nat) (t ts : Nat → Nat) (hI : AI (ao a o) 38) (sz : Nat) (f : Nat → Int64) (σ τ : St) (hm : tX7_end σ = some (1, τ)) : Met l yL_end zL_end { frames := 7, cells := 1, slots := 6, locals := 123 } (va_Pc [.ref (a 0), .ref o] (preO D y a o t ts f σ sz)) (va_Qi (fun r' u => r' = 1 ∧ u = (τ, f)) (posO D y a o) (AC (ao a o) 38 sz)) 1 6 (AC (ao a o) 38 sz) := by
  refine va_MetW (cc := cL_end) (maxL := 3) (ret := (some .int)) (hh := [(0, 8, 11, 13)]) (by decide) rfl ?_
  intro p e s m args below meth c s₁ B hml hv
  obtain ⟨rfl, ⟨hsz, hP, hK, hF⟩, hE⟩ := hv
  have hx := B.exec
  have hb := B.bytes
  have hr := B.returns
  have hts := atoms_spec (ws := zL_end) B.pre
  have hown : s.vm.findClass RL = some m.cls := findClass_of_methodNamed B.named
  have hlocks := B.notSynchronized
  subst hsz
  have hS : va_S (AC (ao a o) 38 s.heap.size) s.heap s.heap [] := va_S.rf
  have hl := lv_entry ([.ref (a 0), .ref o]) (n := 3) (Nat.le_of_ble_eq_true rfl)
  rw [lg_entry_eq]
  generalize (lg_sl ([.ref (a 0), .ref o]) ++ List.replicate (3 - (lg_sl ([.ref (a 0), .ref o])).length) Slot.unset).toArray = ls at hl ⊢
  have hl : lv_has ls 3 [(0, .ref (a 0)), (1, .ref o)] := hl
  refine lv_aload_n hx hb dL_end_0 rfl (lv_at hl 1 rfl) ?_
  refine lv_iconst (v := 0) hx hb dL_end_1 (by decide) ?_
  refine lv_aload_n hx hb dL_end_2 rfl (lv_at hl 0 rfl) ?_
  refine vx_calli (post := fun (_ : Int32) (_ : Unit) => False) (B := fun _ _ => True) (A1 := AC a 37 s.heap.size) (vx_runV (mc := 1) (ms := 6) (As := []) (rest := [.int 0, .ref o]) ⟨hx, hb, hml, hown, hts⟩ (xX7_end l hfl D y a t ts (ao_I hI) (va_Qi (S := Unit) (fun _ _ => False) (fun _ _ => True) (AC a 37 s.heap.size)) _ σ τ 1 hm) (cwV 0 hts (gAV aM_L_72 aI_X7_end aS_X7_end aN_X7 aC_X7_end) rfl rfl rfl eX7_end ⟨Nat.le_of_ble_eq_true rfl, Nat.le_of_ble_eq_true rfl⟩) (preV_OE hK hP hF hE hS) rfl rfl hl.1 rfl (lv_room (Nat.le_of_ble_eq_true rfl)) dL_end_3 ⟨Nat.le_of_ble_eq_true rfl, Nat.le_of_ble_eq_true rfl⟩) hS (fun q _ h => AC_ao hS.1 q h) (AC_ao hS.1) (fun q _ h => AC_ao hS.1 q h) (fun E ce q9 u T H1 locs1 ht hvm hpx hBX hz hk1 hS hce hcv hcl => ?_) (fun _ _ _ _ _ _ _ h => h.elim)
  obtain ⟨rfl, hP1⟩ := hBX
  unfold posW at hP1
  rw [ht, hpx] at hP1
  have hP := wO_join hI hP hk1 hP1
  have htab := vx_table (x := yL_end) B (hts _ List.mem_cons_self)
  refine vx_catch hown [] ⟨0, 8, 11, 13⟩ [] (by rw [htab]; rfl) (fun _ h => absurd h List.not_mem_nil) (by decide) (by decide) (hts _ (List.mem_cons_of_mem _ xC1)) (va_Nw.use rfl hE.1.1.1) hce hcv hcl ?_
  refine lv_astore_n (lv' := [(2, .ref q9), (0, .ref (a 0)), (1, .ref o)]) hx hb dL_end_11 rfl hl (by decide) rfl (fun ls hl => ?_)
  refine lv_iconst (v := 1) hx hb dL_end_12 (by decide) ?_
  exact W.iret (v := 1) hx hb hr (fun T hT hW => ⟨⟨1, (τ, f), rfl, ⟨rfl, rfl⟩, by rw [posO, hT]; exact hP⟩, hS.F hT⟩) hS.2.2 dL_end_13
theorem eL_theorem : yL_theorem.cls ≠ "java/lang/invoke/MethodHandle" ∧ yL_theorem.cls ≠ "java/lang/invoke/VarHandle" ∧ (parseMethodDescriptor yL_theorem.desc).map (fun d => d.parameters.length) = some 4 := by decide +kernel
set_option maxHeartbeats 4000000 in
set_option maxRecDepth 100000 in
theorem kL_theorem (l : Launch) (D : va_G) (y : Nat → ClassId) (a : Nat → Nat) (o : Nat) (t ts : Nat → Nat) (hI : AI (ao a o) 38) (sz : Nat) (f : Nat → Int64) (σ : St) (p1 : Int32) (p2 : Int32) (r : Int32) (hm : mX7_theorem σ p1 p2 = some r) : Met l yL_theorem zL_theorem { frames := 7, cells := 1, slots := 6, locals := 120 } (va_Pc [.ref (a 0), .int p1, .int p2, .ref o] (preO D y a o t ts f σ sz)) (va_Qi (fun r' u => r' = 0 ∧ u = (σ, vp_updL f 0 r.toInt64)) (posO D y a o) (AC (ao a o) 38 sz)) 1 6 (AC (ao a o) 38 sz) := by
  refine va_MetW (cc := cL_theorem) (maxL := 5) (ret := (some .int)) (hh := [(0, 10, 13, 25)]) (by decide) rfl ?_
  intro p e s m args below meth c s₁ B hml hv
  obtain ⟨rfl, ⟨hsz, hP, hK, hF⟩, hE⟩ := hv
  have hx := B.exec
  have hb := B.bytes
  have hr := B.returns
  have hts := atoms_spec (ws := zL_theorem) B.pre
  have hown : s.vm.findClass RL = some m.cls := findClass_of_methodNamed B.named
  have hlocks := B.notSynchronized
  subst hsz
  have hS : va_S (AC (ao a o) 38 s.heap.size) s.heap s.heap [] := va_S.rf
  have hl := lv_entry ([.ref (a 0), .int p1, .int p2, .ref o]) (n := 5) (Nat.le_of_ble_eq_true rfl)
  rw [lg_entry_eq]
  generalize (lg_sl ([.ref (a 0), .int p1, .int p2, .ref o]) ++ List.replicate (5 - (lg_sl ([.ref (a 0), .int p1, .int p2, .ref o])).length) Slot.unset).toArray = ls at hl ⊢
  have hl : lv_has ls 5 [(0, .ref (a 0)), (1, .int p1), (2, .int p2), (3, .ref o)] := hl
  refine lv_aload_n hx hb dL_theorem_0 rfl (lv_at hl 3 rfl) ?_
  refine lv_iconst (v := 0) hx hb dL_theorem_1 (by decide) ?_
  refine lv_aload_n hx hb dL_theorem_2 rfl (lv_at hl 0 rfl) ?_
  refine lv_iload_n hx hb dL_theorem_3 rfl (lv_at hl 1 rfl) ?_
  refine lv_iload_n hx hb dL_theorem_4 rfl (lv_at hl 2 rfl) ?_
  refine calV_i (As := [.int p1, .int p2]) (rest := [.int 0, .ref o]) ⟨hx, hb, hml, hown, hts⟩ (kX7_theorem l D y a t (ao_I hI) _ σ p1 p2 r hm) (cwV 2 hts (gAV aM_L_75 aI_X7_theorem aS_X7_theorem aN_X7 aC_X7_theorem) rfl rfl rfl eX7_theorem ⟨Nat.le_of_ble_eq_true rfl, Nat.le_of_ble_eq_true rfl⟩) (preV_O hK hP hF hS) rfl hl.1 rfl (Nat.le_of_ble_eq_true rfl) dL_theorem_5 ⟨Nat.zero_le _, Nat.zero_le _⟩ hS (AC_ao hS.1) (fun H locs hP1 hS hk1 => ?_)
  have hP := wO_join hI hP hk1 hP1
  refine lv_i2l (v := r.toInt64) hx hb dL_theorem_8 rfl ?_
  refine stO hx hb hK hP hI hS dL_theorem_9 (fun H locs hP hS => ?_)
  refine lv_goto (tgt := 17) hx hb dL_theorem_10 (by decide) ?_
  refine lv_iconst (v := 0) hx hb dL_theorem_17 (by decide) ?_
  refine W.widen (k := 1) (n := 6) (by decide) (by decide) ?_
  exact W.iret (v := 0) hx hb hr (fun T hT hW => ⟨⟨0, (σ, vp_updL f 0 r.toInt64), rfl, ⟨rfl, rfl⟩, by rw [posO, hT]; exact hP⟩, hS.F hT⟩) hS.2.2 dL_theorem_18
set_option maxHeartbeats 4000000 in
set_option maxRecDepth 100000 in
theorem xL_theorem_3 (l : Launch) (hfl : l.stackTraces = false) (D : va_G) (y : Nat → ClassId) (a : Nat → Nat) (o : Nat) (t ts : Nat → Nat) (hI : AI (ao a o) 38) (sz : Nat) (f : Nat → Int64) (σ : St) (p1 : Int32) (p2 : Int32) (hm : tX7_theorem σ p1 p2 = some 3) : Met l yL_theorem zL_theorem { frames := 7, cells := 1, slots := 6, locals := 120 } (va_Pc [.ref (a 0), .int p1, .int p2, .ref o] (preO D y a o t ts f σ sz)) (va_Qi (fun r' u => r' = 1 ∧ u = (σ, f)) (posO D y a o) (AC (ao a o) 38 sz)) 1 6 (AC (ao a o) 38 sz) := by
  refine va_MetW (cc := cL_theorem) (maxL := 5) (ret := (some .int)) (hh := [(0, 10, 13, 25)]) (by decide) rfl ?_
  intro p e s m args below meth c s₁ B hml hv
  obtain ⟨rfl, ⟨hsz, hP, hK, hF⟩, hE⟩ := hv
  have hx := B.exec
  have hb := B.bytes
  have hr := B.returns
  have hts := atoms_spec (ws := zL_theorem) B.pre
  have hown : s.vm.findClass RL = some m.cls := findClass_of_methodNamed B.named
  have hlocks := B.notSynchronized
  subst hsz
  have hS : va_S (AC (ao a o) 38 s.heap.size) s.heap s.heap [] := va_S.rf
  have hl := lv_entry ([.ref (a 0), .int p1, .int p2, .ref o]) (n := 5) (Nat.le_of_ble_eq_true rfl)
  rw [lg_entry_eq]
  generalize (lg_sl ([.ref (a 0), .int p1, .int p2, .ref o]) ++ List.replicate (5 - (lg_sl ([.ref (a 0), .int p1, .int p2, .ref o])).length) Slot.unset).toArray = ls at hl ⊢
  have hl : lv_has ls 5 [(0, .ref (a 0)), (1, .int p1), (2, .int p2), (3, .ref o)] := hl
  refine lv_aload_n hx hb dL_theorem_0 rfl (lv_at hl 3 rfl) ?_
  refine lv_iconst (v := 0) hx hb dL_theorem_1 (by decide) ?_
  refine lv_aload_n hx hb dL_theorem_2 rfl (lv_at hl 0 rfl) ?_
  refine lv_iload_n hx hb dL_theorem_3 rfl (lv_at hl 1 rfl) ?_
  refine lv_iload_n hx hb dL_theorem_4 rfl (lv_at hl 2 rfl) ?_
  refine vx_calli (post := fun (_ : Int32) (_ : Unit) => False) (B := fun _ _ => True) (A1 := AC a 37 s.heap.size) (vx_runV (mc := 1) (ms := 6) (As := [.int p1, .int p2]) (rest := [.int 0, .ref o]) ⟨hx, hb, hml, hown, hts⟩ (xX7_theorem l hfl D y a t ts (ao_I hI) (va_Qi (S := Unit) (fun _ _ => False) (fun _ _ => True) (AC a 37 s.heap.size)) _ σ p1 p2 3 hm) (cwV 2 hts (gAV aM_L_75 aI_X7_theorem aS_X7_theorem aN_X7 aC_X7_theorem) rfl rfl rfl eX7_theorem ⟨Nat.le_of_ble_eq_true rfl, Nat.le_of_ble_eq_true rfl⟩) (preV_OE hK hP hF hE hS) rfl rfl hl.1 rfl (lv_room (Nat.le_of_ble_eq_true rfl)) dL_theorem_5 ⟨Nat.le_of_ble_eq_true rfl, Nat.le_of_ble_eq_true rfl⟩) hS (fun q _ h => AC_ao hS.1 q h) (AC_ao hS.1) (fun q _ h => AC_ao hS.1 q h) (fun E ce q9 u T H1 locs1 ht hvm hpx hBX hz hk1 hS hce hcv hcl => ?_) (fun _ _ _ _ _ _ _ h => h.elim)
  obtain ⟨rfl, hP1⟩ := hBX
  unfold posW at hP1
  rw [ht, hpx] at hP1
  have hP := wO_join hI hP hk1 hP1
  have htab := vx_table (x := yL_theorem) B (hts _ List.mem_cons_self)
  refine vx_catch hown [] ⟨0, 10, 13, 25⟩ [] (by rw [htab]; rfl) (fun _ h => absurd h List.not_mem_nil) (by decide) (by decide) (hts _ (List.mem_cons_of_mem _ xC3)) (va_Nw.use rfl hE.1.1.2.2) hce hcv hcl ?_
  refine lv_astore (lv' := [(4, .ref q9), (0, .ref (a 0)), (1, .int p1), (2, .int p2), (3, .ref o)]) hx hb dL_theorem_13 hl (by decide) rfl (fun ls hl => ?_)
  refine lv_iconst (v := 1) hx hb dL_theorem_15 (by decide) ?_
  exact W.iret (v := 1) hx hb hr (fun T hT hW => ⟨⟨1, (σ, f), rfl, ⟨rfl, rfl⟩, by rw [posO, hT]; exact hP⟩, hS.F hT⟩) hS.2.2 dL_theorem_16
theorem eL_instance : yL_instance.cls ≠ "java/lang/invoke/MethodHandle" ∧ yL_instance.cls ≠ "java/lang/invoke/VarHandle" ∧ (parseMethodDescriptor yL_instance.desc).map (fun d => d.parameters.length) = some 5 := by decide +kernel
set_option maxHeartbeats 4000000 in
set_option maxRecDepth 100000 in
theorem kL_instance (l : Launch) (D : va_G) (y : Nat → ClassId) (a : Nat → Nat) (o : Nat) (t ts : Nat → Nat) (hI : AI (ao a o) 38) (sz : Nat) (f : Nat → Int64) (σ τ : St) (p1 : Int32) (p2 : Int32) (p3 : Int32) (r : Int32) (hm : mX7_instance σ p1 p2 p3 = some (r, τ)) : Met l yL_instance zL_instance { frames := 7, cells := 1, slots := 6, locals := 121 } (va_Pc [.ref (a 0), .int p1, .int p2, .int p3, .ref o] (preO D y a o t ts f σ sz)) (va_Qi (fun r' u => r' = 0 ∧ u = (τ, vp_updL f 0 r.toInt64)) (posO D y a o) (AC (ao a o) 38 sz)) 1 6 (AC (ao a o) 38 sz) := by
  refine va_MetW (cc := cL_instance) (maxL := 6) (ret := (some .int)) (hh := [(0, 12, 15, 25)]) (by decide) rfl ?_
  intro p e s m args below meth c s₁ B hml hv
  obtain ⟨rfl, ⟨hsz, hP, hK, hF⟩, hE⟩ := hv
  have hx := B.exec
  have hb := B.bytes
  have hr := B.returns
  have hts := atoms_spec (ws := zL_instance) B.pre
  have hown : s.vm.findClass RL = some m.cls := findClass_of_methodNamed B.named
  have hlocks := B.notSynchronized
  subst hsz
  have hS : va_S (AC (ao a o) 38 s.heap.size) s.heap s.heap [] := va_S.rf
  have hl := lv_entry ([.ref (a 0), .int p1, .int p2, .int p3, .ref o]) (n := 6) (Nat.le_of_ble_eq_true rfl)
  rw [lg_entry_eq]
  generalize (lg_sl ([.ref (a 0), .int p1, .int p2, .int p3, .ref o]) ++ List.replicate (6 - (lg_sl ([.ref (a 0), .int p1, .int p2, .int p3, .ref o])).length) Slot.unset).toArray = ls at hl ⊢
  have hl : lv_has ls 6 [(0, .ref (a 0)), (1, .int p1), (2, .int p2), (3, .int p3), (4, .ref o)] := hl
  refine lv_aload hx hb dL_instance_0 (lv_at hl 4 rfl) ?_
  refine lv_iconst (v := 0) hx hb dL_instance_2 (by decide) ?_
  refine lv_aload_n hx hb dL_instance_3 rfl (lv_at hl 0 rfl) ?_
  refine lv_iload_n hx hb dL_instance_4 rfl (lv_at hl 1 rfl) ?_
  refine lv_iload_n hx hb dL_instance_5 rfl (lv_at hl 2 rfl) ?_
  refine lv_iload_n hx hb dL_instance_6 rfl (lv_at hl 3 rfl) ?_
  refine calV_i (As := [.int p1, .int p2, .int p3]) (rest := [.int 0, .ref o]) ⟨hx, hb, hml, hown, hts⟩ (kX7_instance l D y a t (ao_I hI) _ σ τ p1 p2 p3 r hm) (cwV 3 hts (gAV aM_L_78 aI_X7_instance aS_X7_instance aN_X7 aC_X7_instance) rfl rfl rfl eX7_instance ⟨Nat.le_of_ble_eq_true rfl, Nat.le_of_ble_eq_true rfl⟩) (preV_O hK hP hF hS) rfl hl.1 rfl (Nat.le_of_ble_eq_true rfl) dL_instance_7 ⟨Nat.zero_le _, Nat.zero_le _⟩ hS (AC_ao hS.1) (fun H locs hP1 hS hk1 => ?_)
  have hP := wO_join hI hP hk1 hP1
  refine lv_i2l (v := r.toInt64) hx hb dL_instance_10 rfl ?_
  refine stO hx hb hK hP hI hS dL_instance_11 (fun H locs hP hS => ?_)
  refine lv_goto (tgt := 19) hx hb dL_instance_12 (by decide) ?_
  refine lv_iconst (v := 0) hx hb dL_instance_19 (by decide) ?_
  refine W.widen (k := 1) (n := 6) (by decide) (by decide) ?_
  exact W.iret (v := 0) hx hb hr (fun T hT hW => ⟨⟨0, (τ, vp_updL f 0 r.toInt64), rfl, ⟨rfl, rfl⟩, by rw [posO, hT]; exact hP⟩, hS.F hT⟩) hS.2.2 dL_instance_20
set_option maxHeartbeats 4000000 in
set_option maxRecDepth 100000 in
theorem xL_instance_3 (l : Launch) (hfl : l.stackTraces = false) (D : va_G) (y : Nat → ClassId) (a : Nat → Nat) (o : Nat) (t ts : Nat → Nat) (hI : AI (ao a o) 38) (sz : Nat) (f : Nat → Int64) (σ τ : St) (p1 : Int32) (p2 : Int32) (p3 : Int32) (hm : tX7_instance σ p1 p2 p3 = some (3, τ)) : Met l yL_instance zL_instance { frames := 7, cells := 1, slots := 6, locals := 121 } (va_Pc [.ref (a 0), .int p1, .int p2, .int p3, .ref o] (preO D y a o t ts f σ sz)) (va_Qi (fun r' u => r' = 1 ∧ u = (τ, f)) (posO D y a o) (AC (ao a o) 38 sz)) 1 6 (AC (ao a o) 38 sz) := by
  refine va_MetW (cc := cL_instance) (maxL := 6) (ret := (some .int)) (hh := [(0, 12, 15, 25)]) (by decide) rfl ?_
  intro p e s m args below meth c s₁ B hml hv
  obtain ⟨rfl, ⟨hsz, hP, hK, hF⟩, hE⟩ := hv
  have hx := B.exec
  have hb := B.bytes
  have hr := B.returns
  have hts := atoms_spec (ws := zL_instance) B.pre
  have hown : s.vm.findClass RL = some m.cls := findClass_of_methodNamed B.named
  have hlocks := B.notSynchronized
  subst hsz
  have hS : va_S (AC (ao a o) 38 s.heap.size) s.heap s.heap [] := va_S.rf
  have hl := lv_entry ([.ref (a 0), .int p1, .int p2, .int p3, .ref o]) (n := 6) (Nat.le_of_ble_eq_true rfl)
  rw [lg_entry_eq]
  generalize (lg_sl ([.ref (a 0), .int p1, .int p2, .int p3, .ref o]) ++ List.replicate (6 - (lg_sl ([.ref (a 0), .int p1, .int p2, .int p3, .ref o])).length) Slot.unset).toArray = ls at hl ⊢
  have hl : lv_has ls 6 [(0, .ref (a 0)), (1, .int p1), (2, .int p2), (3, .int p3), (4, .ref o)] := hl
  refine lv_aload hx hb dL_instance_0 (lv_at hl 4 rfl) ?_
  refine lv_iconst (v := 0) hx hb dL_instance_2 (by decide) ?_
  refine lv_aload_n hx hb dL_instance_3 rfl (lv_at hl 0 rfl) ?_
  refine lv_iload_n hx hb dL_instance_4 rfl (lv_at hl 1 rfl) ?_
  refine lv_iload_n hx hb dL_instance_5 rfl (lv_at hl 2 rfl) ?_
  refine lv_iload_n hx hb dL_instance_6 rfl (lv_at hl 3 rfl) ?_
  refine vx_calli (post := fun (_ : Int32) (_ : Unit) => False) (B := fun _ _ => True) (A1 := AC a 37 s.heap.size) (vx_runV (mc := 1) (ms := 6) (As := [.int p1, .int p2, .int p3]) (rest := [.int 0, .ref o]) ⟨hx, hb, hml, hown, hts⟩ (xX7_instance l hfl D y a t ts (ao_I hI) (va_Qi (S := Unit) (fun _ _ => False) (fun _ _ => True) (AC a 37 s.heap.size)) _ σ τ p1 p2 p3 3 hm) (cwV 3 hts (gAV aM_L_78 aI_X7_instance aS_X7_instance aN_X7 aC_X7_instance) rfl rfl rfl eX7_instance ⟨Nat.le_of_ble_eq_true rfl, Nat.le_of_ble_eq_true rfl⟩) (preV_OE hK hP hF hE hS) rfl rfl hl.1 rfl (lv_room (Nat.le_of_ble_eq_true rfl)) dL_instance_7 ⟨Nat.le_of_ble_eq_true rfl, Nat.le_of_ble_eq_true rfl⟩) hS (fun q _ h => AC_ao hS.1 q h) (AC_ao hS.1) (fun q _ h => AC_ao hS.1 q h) (fun E ce q9 u T H1 locs1 ht hvm hpx hBX hz hk1 hS hce hcv hcl => ?_) (fun _ _ _ _ _ _ _ h => h.elim)
  obtain ⟨rfl, hP1⟩ := hBX
  unfold posW at hP1
  rw [ht, hpx] at hP1
  have hP := wO_join hI hP hk1 hP1
  have htab := vx_table (x := yL_instance) B (hts _ List.mem_cons_self)
  refine vx_catch hown [] ⟨0, 12, 15, 25⟩ [] (by rw [htab]; rfl) (fun _ h => absurd h List.not_mem_nil) (by decide) (by decide) (hts _ (List.mem_cons_of_mem _ xC3)) (va_Nw.use rfl hE.1.1.2.2) hce hcv hcl ?_
  refine lv_astore (lv' := [(5, .ref q9), (0, .ref (a 0)), (1, .int p1), (2, .int p2), (3, .int p3), (4, .ref o)]) hx hb dL_instance_15 hl (by decide) rfl (fun ls hl => ?_)
  refine lv_iconst (v := 1) hx hb dL_instance_17 (by decide) ?_
  exact W.iret (v := 1) hx hb hr (fun T hT hW => ⟨⟨1, (τ, f), rfl, ⟨rfl, rfl⟩, by rw [posO, hT]; exact hP⟩, hS.F hT⟩) hS.2.2 dL_instance_18
