/-- the addresses side by side: the class's, the law's row, the reference's -/
def lc (a : Nat → Nat) (o : Nat) (b : Nat → Nat) : Nat → Nat := fun k => if k < 38 then ao a o k else b (k - 38)
theorem lc_lt {a b : Nat → Nat} {o k : Nat} (h : k < 38) : lc a o b k = ao a o k := if_pos h
theorem lc_ge {a b : Nat → Nat} {o k : Nat} : lc a o b (38 + k) = b k := by
  unfold lc
  rw [if_neg (by omega), Nat.add_sub_cancel_left]
def LX (p : Program) (l : Launch) (s : State) (m : MethodId) (meth : Method) (c : Code) (D : va_G) (y : Nat → ClassId) (a b t ts : Nat → Nat) (o z L : Nat) (xs : Nat → Int32) : Prop :=
  (p.tables.exec = Jvm.exec ∧ c.code = code ∧ c.maxLocals = 9 ∧ s.vm.findClass RL = some m.cls ∧ (∀ w ∈ (Cond.initialized RX7 :: AW), w.before #[Value.ref z] s = true) ∧ meth.locks = false ∧ meth.sig.returnType = ret) ∧
  (va_X z L xs s s.heap ∧ z < s.heap.size ∧ L ≤ 3072) ∧ va_K D vwCl (tysA y) s ∧ SF t (fun q => s.heap.size ≤ q) s ∧ EX ts s ∧ l.stackTraces = false ∧ AI (lc a o b) 68 ∧ ∀ k, k < 68 → s.heap.size ≤ lc a o b k
section
variable {p : Program} {l : Launch} {e : Env} {s : State} {m : MethodId} {below : List Frame} {meth : Method} {c : Code} {D : va_G} {y : Nat → ClassId} {a b t ts : Nat → Nat} {o z L : Nat} {xs : Nat → Int32} {H : Heap} {locs : List Loc} {cells slots : Nat} {Q : State → Prop} {pc : Nat} {ls : Array Slot} {rest st0 As : List Value} {σ τ σ' τ' : St} {f f' : Nat → Int64}
theorem LX.aI (C : LX p l s m meth c D y a b t ts o z L xs) : AI (ao a o) 38 := fun i j hi hj h => C.2.2.2.2.2.2.1 i j (by omega) (by omega) (by rw [lc_lt hi, lc_lt hj]; exact h)
theorem LX.bI (C : LX p l s m meth c D y a b t ts o z L xs) : AI b 30 := fun i j hi hj h => by
  have := C.2.2.2.2.2.2.1 (38 + i) (38 + j) (by omega) (by omega) (by rw [lc_ge, lc_ge]; exact h)
  omega
theorem LX.aA (C : LX p l s m meth c D y a b t ts o z L xs) : ∀ k, k < 38 → s.heap.size ≤ ao a o k := fun k hk => by have := C.2.2.2.2.2.2.2 k (by omega); rwa [lc_lt hk] at this
theorem LX.bA (C : LX p l s m meth c D y a b t ts o z L xs) : ∀ k, k < 30 → s.heap.size ≤ b k := fun k hk => by have := C.2.2.2.2.2.2.2 (38 + k) (by omega); rwa [lc_ge] at this
theorem LX.ne (C : LX p l s m meth c D y a b t ts o z L xs) {i j : Nat} (hi : i < 38) (hj : j < 30) : ao a o i ≠ b j := fun h => by
  have := C.2.2.2.2.2.2.1 i (38 + j) (by omega) (by omega) (by rw [lc_lt hi, lc_ge]; exact h)
  omega
theorem LX.subO (C : LX p l s m meth c D y a b t ts o z L xs) {sz : Nat} (h : s.heap.size ≤ sz) : ∀ q, AC (ao a o) 38 sz q → s.heap.size ≤ q := fun q hq => hq.elim (fun ⟨k, h1, h2⟩ => by rw [h2]; exact C.aA k h1) (fun h1 => Nat.le_trans h h1)
theorem LX.subM (C : LX p l s m meth c D y a b t ts o z L xs) {sz : Nat} (h : s.heap.size ≤ sz) : ∀ q, AC b 30 sz q → s.heap.size ≤ q := fun q hq => hq.elim (fun ⟨k, h1, h2⟩ => by rw [h2]; exact C.bA k h1) (fun h1 => Nat.le_trans h h1)
/-- the reference's world behind a call that writes on the class's side -/
theorem LX.keepM (C : LX p l s m meth c D y a b t ts o z L xs) {H1 : Heap} (hPm : va_P D vwCl (wM y b τ) H) (hk : ∀ q : Nat, q < H.size → ¬ AC (ao a o) 38 H.size q → H1[q]? = H[q]?) : va_P D vwCl (wM y b τ) H1 := hPm.kept fun k q hq => by
  obtain ⟨h1, h2⟩ := ad_of (wM_ad y b τ) hq
  have hlt : q.1 < H.size := (hPm k q hq).lt
  refine hk q.1 hlt ?_
  rintro (⟨j, h3, h4⟩ | h3)
  · exact C.ne h3 h1 (by rw [← h4, h2])
  · omega
theorem LX.keepO (C : LX p l s m meth c D y a b t ts o z L xs) {H1 : Heap} (hPc : va_P D vwCl (wO y a o f σ) H) (hk : ∀ q : Nat, q < H.size → ¬ AC b 30 H.size q → H1[q]? = H[q]?) : va_P D vwCl (wO y a o f σ) H1 := hPc.kept fun k q hq => by
  obtain ⟨h1, h2⟩ := ad_of (wO_ad y a o f σ) hq
  have hlt : q.1 < H.size := (hPc k q hq).lt
  refine hk q.1 hlt ?_
  rintro (⟨j, h3, h4⟩ | h3)
  · exact C.ne h1 h3 (by rw [← h4, h2])
  · omega
theorem lawH (C : LX p l s m meth c D y a b t ts o z L xs) {idx maxL n : Nat} {yy : MethodName} {bytes : ByteArray} {rt : Option FieldType} {hh : List (Nat × Nat × Nat × Nat)} {ws : List Cond} {rm : Room} {k : Int32}
    (hM : Met l yy ws rm (va_Pc As (preO D y a o t ts f σ H.size)) (va_Qi (fun r' u => r' = k ∧ u = (σ', f')) (posO D y a o) (AC (ao a o) 38 H.size)) 1 6 (AC (ao a o) 38 H.size)) (cw : vx_CSW room_1 s #[Value.ref z] RL idx yy bytes maxL rt hh ws rm 1 6 n)
    (hn : As.length = n) (hsz : ls.size = 9) (hst : st0 = As.reverse ++ rest) (hW : (rest.map fun v => v.category).sum ≤ 8) (hdg : decode code pc = .ok (.invokestatic idx, 3)) (hc : cells + 1 ≤ 601024 ∧ slots + 6 ≤ 7293033)
    (hPc : va_P D vwCl (wO y a o f σ) H) (hPm : va_P D vwCl (wM y b τ) H) (hS : va_S (fun q => s.heap.size ≤ q) s.heap H locs)
    (kk : ∀ (H : Heap) (locs : List Loc), va_P D vwCl (wO y a o f' σ') H → va_P D vwCl (wM y b τ) H → va_S (fun q => s.heap.size ≤ q) s.heap H locs → W p l e room_1 s m #[Value.ref z] below meth c H locs (cells + 1) (slots + 6) Q (F0 m (pc + 3) ls (.int k :: rest))) : W p l e room_1 s m #[Value.ref z] below meth c H locs cells slots Q (F0 m pc ls st0) := by
  have hpre : PreS s H (va_Pc As (preO D y a o t ts f σ H.size)) As := ⟨preO_blind, fun U hU hW => ⟨rfl, ⟨by rw [hU], by rw [hU]; exact hPc, va_K.moved hW.alike C.2.2.1, C.2.2.2.1.next hW.alike hU hS (C.subO hS.1)⟩, C.2.2.2.2.1.warm hW⟩⟩
  refine va_calli (vx_runSW (nL := 9) (Ts := Cond.initialized RX7 :: AW) ⟨C.1.1, C.1.2.1, C.1.2.2.1, C.1.2.2.2.1, C.1.2.2.2.2.1⟩ hM cw hpre rfl hn hsz hst (lv_room hW) hdg hc) hS (fun q _ h => C.subO hS.1 q h) (C.subO hS.1) (fun r u T H1 locs1 ht hvm hw hB hz1 hk1 hS1 => ?_)
  obtain ⟨rfl, rfl⟩ := hw
  unfold posO at hB
  rw [ht] at hB
  exact kk _ _ hB (C.keepM hPm hk1) hS1
theorem lawX_i (C : LX p l s m meth c D y a b t ts o z L xs) {idx maxL n mc ms : Nat} {yy : MethodName} {bytes : ByteArray} {rt : Option FieldType} {ws : List Cond} {rm : Room} {r : Int32}
    (hM : Met l yy ws rm (va_Pc (.ref (a 0) :: As) (preW (wC y a) a 37 D y t σ H.size)) (va_Qi (fun r' u => r' = r ∧ u = σ') (posW (wC y a) D) (AC a 37 H.size)) mc ms (AC a 37 H.size)) (cw : CallW room_1 s #[Value.ref z] RL RX7 idx yy bytes maxL rt ws rm mc ms n)
    (hn : As.length = n) (hsz : ls.size = 9) (hst : st0 = As.reverse ++ .ref (a 0) :: rest) (hW : (rest.map fun v => v.category).sum ≤ 8) (hdg : decode code pc = .ok (.invokevirtual idx, 3)) (hc : cells + mc ≤ 601024 ∧ slots + ms ≤ 7293033)
    (hPc : va_P D vwCl (wO y a o f σ) H) (hPm : va_P D vwCl (wM y b τ) H) (hS : va_S (fun q => s.heap.size ≤ q) s.heap H locs)
    (kk : ∀ (H : Heap) (locs : List Loc), va_P D vwCl (wO y a o f σ') H → va_P D vwCl (wM y b τ) H → va_S (fun q => s.heap.size ≤ q) s.heap H locs → W p l e room_1 s m #[Value.ref z] below meth c H locs (cells + mc) (slots + ms) Q (F0 m (pc + 3) ls (.int r :: rest))) : W p l e room_1 s m #[Value.ref z] below meth c H locs cells slots Q (F0 m pc ls st0) := by
  have hsub : ∀ q, AC a 37 H.size q → s.heap.size ≤ q := (fun q h => C.subO hS.1 q (AC_ao (Nat.le_refl _) q h))
  have hpre : PreV s H RX7 (a 0) (va_Pc (.ref (a 0) :: As) (preW (wC y a) a 37 D y t σ H.size)) As := ⟨preW_blind, va_recv (ci := 7) (q := (RX7, TX7, 6)) C.2.2.1 (wO_sub hPc) rfl (wC_0 y a σ), fun U hU hW => ⟨rfl, by rw [hU], by rw [hU]; exact (wO_sub hPc), va_K.moved hW.alike C.2.2.1, C.2.2.2.1.next hW.alike hU hS hsub⟩⟩
  refine va_calli (va_runV (nL := 9) (Ts := Cond.initialized RX7 :: AW) ⟨C.1.1, C.1.2.1, C.1.2.2.1, C.1.2.2.2.1, C.1.2.2.2.2.1⟩ hM cw hpre rfl hn hsz hst (lv_room hW) hdg hc) hS (fun q _ h => hsub q h) hsub (fun r u T H1 locs1 ht hvm hw hB hz1 hk1 hS1 => ?_)
  obtain ⟨rfl, rfl⟩ := hw
  unfold posW at hB
  rw [ht] at hB
  exact kk _ _ (wO_join C.aI hPc hk1 hB) (C.keepM hPm (fun q h1 h2 => hk1 q h1 (fun h3 => h2 (AC_ao (Nat.le_refl _) q h3)))) hS1
theorem lawX_l (C : LX p l s m meth c D y a b t ts o z L xs) {idx maxL n mc ms : Nat} {yy : MethodName} {bytes : ByteArray} {rt : Option FieldType} {ws : List Cond} {rm : Room} {r : Int64}
    (hM : Met l yy ws rm (va_Pc (.ref (a 0) :: As) (preW (wC y a) a 37 D y t σ H.size)) (va_Ql (fun r' u => r' = r ∧ u = σ') (posW (wC y a) D) (AC a 37 H.size)) mc ms (AC a 37 H.size)) (cw : CallW room_1 s #[Value.ref z] RL RX7 idx yy bytes maxL rt ws rm mc ms n)
    (hn : As.length = n) (hsz : ls.size = 9) (hst : st0 = As.reverse ++ .ref (a 0) :: rest) (hW : (rest.map fun v => v.category).sum ≤ 8) (hdg : decode code pc = .ok (.invokevirtual idx, 3)) (hc : cells + mc ≤ 601024 ∧ slots + ms ≤ 7293033)
    (hPc : va_P D vwCl (wO y a o f σ) H) (hPm : va_P D vwCl (wM y b τ) H) (hS : va_S (fun q => s.heap.size ≤ q) s.heap H locs)
    (kk : ∀ (H : Heap) (locs : List Loc), va_P D vwCl (wO y a o f σ') H → va_P D vwCl (wM y b τ) H → va_S (fun q => s.heap.size ≤ q) s.heap H locs → W p l e room_1 s m #[Value.ref z] below meth c H locs (cells + mc) (slots + ms) Q (F0 m (pc + 3) ls (.long r :: rest))) : W p l e room_1 s m #[Value.ref z] below meth c H locs cells slots Q (F0 m pc ls st0) := by
  have hsub : ∀ q, AC a 37 H.size q → s.heap.size ≤ q := (fun q h => C.subO hS.1 q (AC_ao (Nat.le_refl _) q h))
  have hpre : PreV s H RX7 (a 0) (va_Pc (.ref (a 0) :: As) (preW (wC y a) a 37 D y t σ H.size)) As := ⟨preW_blind, va_recv (ci := 7) (q := (RX7, TX7, 6)) C.2.2.1 (wO_sub hPc) rfl (wC_0 y a σ), fun U hU hW => ⟨rfl, by rw [hU], by rw [hU]; exact (wO_sub hPc), va_K.moved hW.alike C.2.2.1, C.2.2.2.1.next hW.alike hU hS hsub⟩⟩
  refine va_calll (va_runV (nL := 9) (Ts := Cond.initialized RX7 :: AW) ⟨C.1.1, C.1.2.1, C.1.2.2.1, C.1.2.2.2.1, C.1.2.2.2.2.1⟩ hM cw hpre rfl hn hsz hst (lv_room hW) hdg hc) hS (fun q _ h => hsub q h) hsub (fun r u T H1 locs1 ht hvm hw hB hz1 hk1 hS1 => ?_)
  obtain ⟨rfl, rfl⟩ := hw
  unfold posW at hB
  rw [ht] at hB
  exact kk _ _ (wO_join C.aI hPc hk1 hB) (C.keepM hPm (fun q h1 h2 => hk1 q h1 (fun h3 => h2 (AC_ao (Nat.le_refl _) q h3)))) hS1
theorem lawX_d (C : LX p l s m meth c D y a b t ts o z L xs) {idx maxL n mc ms : Nat} {yy : MethodName} {bytes : ByteArray} {rt : Option FieldType} {ws : List Cond} {rm : Room} {r : UInt64}
    (hM : Met l yy ws rm (va_Pc (.ref (a 0) :: As) (preW (wC y a) a 37 D y t σ H.size)) (va_Qd (fun r' u => r' = r ∧ u = σ') (posW (wC y a) D) (AC a 37 H.size)) mc ms (AC a 37 H.size)) (cw : CallW room_1 s #[Value.ref z] RL RX7 idx yy bytes maxL rt ws rm mc ms n)
    (hn : As.length = n) (hsz : ls.size = 9) (hst : st0 = As.reverse ++ .ref (a 0) :: rest) (hW : (rest.map fun v => v.category).sum ≤ 8) (hdg : decode code pc = .ok (.invokevirtual idx, 3)) (hc : cells + mc ≤ 601024 ∧ slots + ms ≤ 7293033)
    (hPc : va_P D vwCl (wO y a o f σ) H) (hPm : va_P D vwCl (wM y b τ) H) (hS : va_S (fun q => s.heap.size ≤ q) s.heap H locs)
    (kk : ∀ (H : Heap) (locs : List Loc), va_P D vwCl (wO y a o f σ') H → va_P D vwCl (wM y b τ) H → va_S (fun q => s.heap.size ≤ q) s.heap H locs → W p l e room_1 s m #[Value.ref z] below meth c H locs (cells + mc) (slots + ms) Q (F0 m (pc + 3) ls (.double r :: rest))) : W p l e room_1 s m #[Value.ref z] below meth c H locs cells slots Q (F0 m pc ls st0) := by
  have hsub : ∀ q, AC a 37 H.size q → s.heap.size ≤ q := (fun q h => C.subO hS.1 q (AC_ao (Nat.le_refl _) q h))
  have hpre : PreV s H RX7 (a 0) (va_Pc (.ref (a 0) :: As) (preW (wC y a) a 37 D y t σ H.size)) As := ⟨preW_blind, va_recv (ci := 7) (q := (RX7, TX7, 6)) C.2.2.1 (wO_sub hPc) rfl (wC_0 y a σ), fun U hU hW => ⟨rfl, by rw [hU], by rw [hU]; exact (wO_sub hPc), va_K.moved hW.alike C.2.2.1, C.2.2.2.1.next hW.alike hU hS hsub⟩⟩
  refine va_calld (va_runV (nL := 9) (Ts := Cond.initialized RX7 :: AW) ⟨C.1.1, C.1.2.1, C.1.2.2.1, C.1.2.2.2.1, C.1.2.2.2.2.1⟩ hM cw hpre rfl hn hsz hst (lv_room hW) hdg hc) hS (fun q _ h => hsub q h) hsub (fun r u T H1 locs1 ht hvm hw hB hz1 hk1 hS1 => ?_)
  obtain ⟨rfl, rfl⟩ := hw
  unfold posW at hB
  rw [ht] at hB
  exact kk _ _ (wO_join C.aI hPc hk1 hB) (C.keepM hPm (fun q h1 h2 => hk1 q h1 (fun h3 => h2 (AC_ao (Nat.le_refl _) q h3)))) hS1
theorem lawM_i (C : LX p l s m meth c D y a b t ts o z L xs) {idx maxL n mc ms : Nat} {yy : MethodName} {bytes : ByteArray} {rt : Option FieldType} {ws : List Cond} {rm : Room} {r : Int32}
    (hM : Met l yy ws rm (va_Pc (.ref (b 0) :: As) (preW (wM y b) b 30 D y t τ H.size)) (va_Qi (fun r' u => r' = r ∧ u = τ') (posW (wM y b) D) (AC b 30 H.size)) mc ms (AC b 30 H.size)) (cw : CallW room_1 s #[Value.ref z] RL RX8 idx yy bytes maxL rt ws rm mc ms n)
    (hn : As.length = n) (hsz : ls.size = 9) (hst : st0 = As.reverse ++ .ref (b 0) :: rest) (hW : (rest.map fun v => v.category).sum ≤ 8) (hdg : decode code pc = .ok (.invokevirtual idx, 3)) (hc : cells + mc ≤ 601024 ∧ slots + ms ≤ 7293033)
    (hPc : va_P D vwCl (wO y a o f σ) H) (hPm : va_P D vwCl (wM y b τ) H) (hS : va_S (fun q => s.heap.size ≤ q) s.heap H locs)
    (kk : ∀ (H : Heap) (locs : List Loc), va_P D vwCl (wO y a o f σ) H → va_P D vwCl (wM y b τ') H → va_S (fun q => s.heap.size ≤ q) s.heap H locs → W p l e room_1 s m #[Value.ref z] below meth c H locs (cells + mc) (slots + ms) Q (F0 m (pc + 3) ls (.int r :: rest))) : W p l e room_1 s m #[Value.ref z] below meth c H locs cells slots Q (F0 m pc ls st0) := by
  have hsub : ∀ q, AC b 30 H.size q → s.heap.size ≤ q := (C.subM hS.1)
  have hpre : PreV s H RX8 (b 0) (va_Pc (.ref (b 0) :: As) (preW (wM y b) b 30 D y t τ H.size)) As := ⟨preW_blind, va_recv (ci := 8) (q := (RX8, TX8, 42)) C.2.2.1 hPm rfl (wM_0 y b τ), fun U hU hW => ⟨rfl, by rw [hU], by rw [hU]; exact hPm, va_K.moved hW.alike C.2.2.1, C.2.2.2.1.next hW.alike hU hS hsub⟩⟩
  refine va_calli (va_runV (nL := 9) (Ts := Cond.initialized RX7 :: AW) ⟨C.1.1, C.1.2.1, C.1.2.2.1, C.1.2.2.2.1, C.1.2.2.2.2.1⟩ hM cw hpre rfl hn hsz hst (lv_room hW) hdg hc) hS (fun q _ h => hsub q h) hsub (fun r u T H1 locs1 ht hvm hw hB hz1 hk1 hS1 => ?_)
  obtain ⟨rfl, rfl⟩ := hw
  unfold posW at hB
  rw [ht] at hB
  exact kk _ _ (C.keepO hPc hk1) hB hS1
theorem lawM_l (C : LX p l s m meth c D y a b t ts o z L xs) {idx maxL n mc ms : Nat} {yy : MethodName} {bytes : ByteArray} {rt : Option FieldType} {ws : List Cond} {rm : Room} {r : Int64}
    (hM : Met l yy ws rm (va_Pc (.ref (b 0) :: As) (preW (wM y b) b 30 D y t τ H.size)) (va_Ql (fun r' u => r' = r ∧ u = τ') (posW (wM y b) D) (AC b 30 H.size)) mc ms (AC b 30 H.size)) (cw : CallW room_1 s #[Value.ref z] RL RX8 idx yy bytes maxL rt ws rm mc ms n)
    (hn : As.length = n) (hsz : ls.size = 9) (hst : st0 = As.reverse ++ .ref (b 0) :: rest) (hW : (rest.map fun v => v.category).sum ≤ 8) (hdg : decode code pc = .ok (.invokevirtual idx, 3)) (hc : cells + mc ≤ 601024 ∧ slots + ms ≤ 7293033)
    (hPc : va_P D vwCl (wO y a o f σ) H) (hPm : va_P D vwCl (wM y b τ) H) (hS : va_S (fun q => s.heap.size ≤ q) s.heap H locs)
    (kk : ∀ (H : Heap) (locs : List Loc), va_P D vwCl (wO y a o f σ) H → va_P D vwCl (wM y b τ') H → va_S (fun q => s.heap.size ≤ q) s.heap H locs → W p l e room_1 s m #[Value.ref z] below meth c H locs (cells + mc) (slots + ms) Q (F0 m (pc + 3) ls (.long r :: rest))) : W p l e room_1 s m #[Value.ref z] below meth c H locs cells slots Q (F0 m pc ls st0) := by
  have hsub : ∀ q, AC b 30 H.size q → s.heap.size ≤ q := (C.subM hS.1)
  have hpre : PreV s H RX8 (b 0) (va_Pc (.ref (b 0) :: As) (preW (wM y b) b 30 D y t τ H.size)) As := ⟨preW_blind, va_recv (ci := 8) (q := (RX8, TX8, 42)) C.2.2.1 hPm rfl (wM_0 y b τ), fun U hU hW => ⟨rfl, by rw [hU], by rw [hU]; exact hPm, va_K.moved hW.alike C.2.2.1, C.2.2.2.1.next hW.alike hU hS hsub⟩⟩
  refine va_calll (va_runV (nL := 9) (Ts := Cond.initialized RX7 :: AW) ⟨C.1.1, C.1.2.1, C.1.2.2.1, C.1.2.2.2.1, C.1.2.2.2.2.1⟩ hM cw hpre rfl hn hsz hst (lv_room hW) hdg hc) hS (fun q _ h => hsub q h) hsub (fun r u T H1 locs1 ht hvm hw hB hz1 hk1 hS1 => ?_)
  obtain ⟨rfl, rfl⟩ := hw
  unfold posW at hB
  rw [ht] at hB
  exact kk _ _ (C.keepO hPc hk1) hB hS1
theorem lawM_d (C : LX p l s m meth c D y a b t ts o z L xs) {idx maxL n mc ms : Nat} {yy : MethodName} {bytes : ByteArray} {rt : Option FieldType} {ws : List Cond} {rm : Room} {r : UInt64}
    (hM : Met l yy ws rm (va_Pc (.ref (b 0) :: As) (preW (wM y b) b 30 D y t τ H.size)) (va_Qd (fun r' u => r' = r ∧ u = τ') (posW (wM y b) D) (AC b 30 H.size)) mc ms (AC b 30 H.size)) (cw : CallW room_1 s #[Value.ref z] RL RX8 idx yy bytes maxL rt ws rm mc ms n)
    (hn : As.length = n) (hsz : ls.size = 9) (hst : st0 = As.reverse ++ .ref (b 0) :: rest) (hW : (rest.map fun v => v.category).sum ≤ 8) (hdg : decode code pc = .ok (.invokevirtual idx, 3)) (hc : cells + mc ≤ 601024 ∧ slots + ms ≤ 7293033)
    (hPc : va_P D vwCl (wO y a o f σ) H) (hPm : va_P D vwCl (wM y b τ) H) (hS : va_S (fun q => s.heap.size ≤ q) s.heap H locs)
    (kk : ∀ (H : Heap) (locs : List Loc), va_P D vwCl (wO y a o f σ) H → va_P D vwCl (wM y b τ') H → va_S (fun q => s.heap.size ≤ q) s.heap H locs → W p l e room_1 s m #[Value.ref z] below meth c H locs (cells + mc) (slots + ms) Q (F0 m (pc + 3) ls (.double r :: rest))) : W p l e room_1 s m #[Value.ref z] below meth c H locs cells slots Q (F0 m pc ls st0) := by
  have hsub : ∀ q, AC b 30 H.size q → s.heap.size ≤ q := (C.subM hS.1)
  have hpre : PreV s H RX8 (b 0) (va_Pc (.ref (b 0) :: As) (preW (wM y b) b 30 D y t τ H.size)) As := ⟨preW_blind, va_recv (ci := 8) (q := (RX8, TX8, 42)) C.2.2.1 hPm rfl (wM_0 y b τ), fun U hU hW => ⟨rfl, by rw [hU], by rw [hU]; exact hPm, va_K.moved hW.alike C.2.2.1, C.2.2.2.1.next hW.alike hU hS hsub⟩⟩
  refine va_calld (va_runV (nL := 9) (Ts := Cond.initialized RX7 :: AW) ⟨C.1.1, C.1.2.1, C.1.2.2.1, C.1.2.2.2.1, C.1.2.2.2.2.1⟩ hM cw hpre rfl hn hsz hst (lv_room hW) hdg hc) hS (fun q _ h => hsub q h) hsub (fun r u T H1 locs1 ht hvm hw hB hz1 hk1 hS1 => ?_)
  obtain ⟨rfl, rfl⟩ := hw
  unfold posW at hB
  rw [ht] at hB
  exact kk _ _ (C.keepO hPc hk1) hB hS1
theorem argR (C : LX p l s m meth c D y a b t ts o z L xs) {n : Int} {v x4 p1 : Int32} (hS : va_S (fun q => s.heap.size ≤ q) s.heap H locs) (h0 : ls[0]? = some (.val (.ref z))) (h4 : ls[4]? = some (.val (.int x4))) (hv : Int32.ofInt n = v) (hin : vp_in (x4 + v) L) (he : p1 = xs (x4 + v).toNatClampNeg)
    (d0 : decode code pc = .ok (.aload_n 0, 1)) (d1 : decode code (pc + 1) = .ok (.iload 4, 2)) (d2 : decode code (pc + 3) = .ok (.iconst n, 1)) (d3 : decode code (pc + 4) = .ok (.iadd, 1)) (d4 : decode code (pc + 5) = .ok (.iaload, 1))
    (k : W p l e room_1 s m #[Value.ref z] below meth c H locs cells slots Q (F0 m (pc + 6) ls (.int p1 :: rest))) : W p l e room_1 s m #[Value.ref z] below meth c H locs cells slots Q (F0 m pc ls rest) := by
  subst he
  refine lv_aload_n C.1.1 C.1.2.1 d0 rfl h0 ?_
  refine lv_iload C.1.1 C.1.2.1 d1 h4 ?_
  refine lv_iconst (v := v) C.1.1 C.1.2.1 d2 hv ?_
  refine lv_iadd C.1.1 C.1.2.1 d3 ?_
  exact va_sld C.1.1 C.1.2.1 C.2.1.1 C.2.1.2.1 (by have := C.2.1.2.1; omega) hS hin d4 k
end

theorem lcmp_same {x : Int64} : lg_cmp x x = 0 := by simp [lg_cmp]
set_option maxHeartbeats 4000000 in
set_option maxRecDepth 100000 in
theorem law_feed {p : Program} {l : Launch} {e : Env} {s : State} {m : MethodId} {below : List Frame} {meth : Method} {c : Code} {D : va_G} {y : Nat → ClassId} {a b t ts : Nat → Nat} {o z L : Nat} {xs : Nat → Int32} (C : LX p l s m meth c D y a b t ts o z L xs) {Q : State → Prop} {cells slots : Nat} (hc : cells + 200 ≤ 601024 ∧ slots + 1600 ≤ 7293033) {x4 : Int32} (hin : ∀ d : Nat, d < 6 → vp_in (x4 + nI d) L) {σ τ : St} {f : Nat → Int64} {H : Heap} {locs : List Loc} {ls : Array Slot} (hR : RR σ τ) (hPc : va_P D vwCl (wO y a o f σ) H) (hPm : va_P D vwCl (wM y b τ) H) (hS : va_S (fun q => s.heap.size ≤ q) s.heap H locs) (hl : lv_has ls 9 [(0, .ref z), (1, .ref (a 0)), (2, .ref (b 0)), (3, .ref o), (4, .int x4)])
    (next : ∀ (σ τ : St) (f : Nat → Int64) (H : Heap) (locs : List Loc) (ls : Array Slot), RR σ τ → va_P D vwCl (wO y a o f σ) H → va_P D vwCl (wM y b τ) H → va_S (fun q => s.heap.size ≤ q) s.heap H locs → lv_has ls 9 [(0, .ref z), (1, .ref (a 0)), (2, .ref (b 0)), (3, .ref o), (4, .int x4)] → W p l e room_1 s m #[Value.ref z] below meth c H locs (cells + 200) (slots + 1600) Q (F0 m 1557 ls [])) : W p l e room_1 s m #[Value.ref z] below meth c H locs cells slots Q (F0 m 156 ls []) := by
  have hx := C.1.1
  have hb := C.1.2.1
  have hown := C.1.2.2.2.1
  have hts := C.1.2.2.2.2.1
  obtain ⟨p1, e1⟩ : ∃ q, q = xs (x4 + 1).toNatClampNeg := ⟨_, rfl⟩
  obtain ⟨p2, e2⟩ : ∃ q, q = xs (x4 + 2).toNatClampNeg := ⟨_, rfl⟩
  obtain ⟨p3, e3⟩ : ∃ q, q = xs (x4 + 3).toNatClampNeg := ⟨_, rfl⟩
  obtain ⟨p4, e4⟩ : ∃ q, q = xs (x4 + 4).toNatClampNeg := ⟨_, rfl⟩
  obtain ⟨p5, e5⟩ : ∃ q, q = xs (x4 + 5).toNatClampNeg := ⟨_, rfl⟩
  rcases P_feed hR p1 p2 p3 p4 p5 with ⟨r, σ', τ', h1, h2, h3, hR'⟩ | ⟨v, σ', τ', h1, h2, h3, hR'⟩
  · skip
    refine lv_aload_n hx hb dL_law_156 rfl (lv_at hl 1 rfl) ?_
    refine argR C (n := 1) (v := 1) hS (lv_at hl 0 rfl) (lv_at hl 4 rfl) (by decide) (hin 1 (by omega)) e1 dL_law_157 dL_law_158 dL_law_160 dL_law_161 dL_law_162 ?_
    refine argR C (n := 2) (v := 2) hS (lv_at hl 0 rfl) (lv_at hl 4 rfl) (by decide) (hin 2 (by omega)) e2 dL_law_163 dL_law_164 dL_law_166 dL_law_167 dL_law_168 ?_
    refine argR C (n := 3) (v := 3) hS (lv_at hl 0 rfl) (lv_at hl 4 rfl) (by decide) (hin 3 (by omega)) e3 dL_law_169 dL_law_170 dL_law_172 dL_law_173 dL_law_174 ?_
    refine argR C (n := 4) (v := 4) hS (lv_at hl 0 rfl) (lv_at hl 4 rfl) (by decide) (hin 4 (by omega)) e4 dL_law_175 dL_law_176 dL_law_178 dL_law_179 dL_law_180 ?_
    refine argR C (n := 5) (v := 5) hS (lv_at hl 0 rfl) (lv_at hl 4 rfl) (by decide) (hin 5 (by omega)) e5 dL_law_181 dL_law_182 dL_law_184 dL_law_185 dL_law_186 ?_
    refine lv_aload_n hx hb dL_law_187 rfl (lv_at hl 3 rfl) ?_
    refine lawH (σ' := σ') (f' := vp_updL f 0 r.toInt64) (As := [.ref (a 0), .int p1, .int p2, .int p3, .int p4, .int p5, .ref o]) (rest := []) C (kL_feed l D y a o t ts C.aI _ f σ σ' p1 p2 p3 p4 p5 r h1) (vx_cwSW 7 hts (gAS aM_L_85 aT_L_feed aN_L aC_L_feed) rfl rfl rfl eL_feed ⟨Nat.le_of_ble_eq_true rfl, Nat.le_of_ble_eq_true rfl⟩) rfl hl.1 rfl (Nat.le_of_ble_eq_true rfl) dL_law_188 ⟨by have := hc.1; omega, by have := hc.2; omega⟩ hPc hPm hS (fun H locs hPc hPm hS => ?_)
    refine lv_istore (lv' := [(5, .int 0), (0, .ref z), (1, .ref (a 0)), (2, .ref (b 0)), (3, .ref o), (4, .int x4)]) hx hb dL_law_191 hl (by decide) rfl (fun ls hl => ?_)
    refine lv_aload_n hx hb dL_law_193 rfl (lv_at hl 3 rfl) ?_
    refine argR C (n := 1) (v := 1) hS (lv_at hl 1 rfl) (lv_at hl 5 rfl) (by decide) (hin 1 (by omega)) e1 dL_law_194 dL_law_195 dL_law_197 dL_law_198 dL_law_199 ?_
    refine argR C (n := 2) (v := 2) hS (lv_at hl 1 rfl) (lv_at hl 5 rfl) (by decide) (hin 2 (by omega)) e2 dL_law_200 dL_law_201 dL_law_203 dL_law_204 dL_law_205 ?_
    refine argR C (n := 3) (v := 3) hS (lv_at hl 1 rfl) (lv_at hl 5 rfl) (by decide) (hin 3 (by omega)) e3 dL_law_206 dL_law_207 dL_law_209 dL_law_210 dL_law_211 ?_
    refine argR C (n := 4) (v := 4) hS (lv_at hl 1 rfl) (lv_at hl 5 rfl) (by decide) (hin 4 (by omega)) e4 dL_law_212 dL_law_213 dL_law_215 dL_law_216 dL_law_217 ?_
    refine argR C (n := 5) (v := 5) hS (lv_at hl 1 rfl) (lv_at hl 5 rfl) (by decide) (hin 5 (by omega)) e5 dL_law_218 dL_law_219 dL_law_221 dL_law_222 dL_law_223 ?_
    refine lawM_i (σ := σ') (τ' := τ') (As := [.int p1, .int p2, .int p3, .int p4, .int p5]) (rest := []) C (kX8_feed l D y b t C.bI _ τ τ' p1 p2 p3 p4 p5 r h2) (cwV 5 hts (gAV aM_L_90 aI_X8_feed aS_X8_feed aN_X8 aC_X8_feed) rfl rfl rfl eX8_feed ⟨Nat.le_of_ble_eq_true rfl, Nat.le_of_ble_eq_true rfl⟩) rfl hl.1 rfl (Nat.le_of_ble_eq_true rfl) dL_law_224 ⟨by have := hc.1; omega, by have := hc.2; omega⟩ hPc hPm hS (fun H locs hPc hPm hS => ?_)
    refine lv_istore (lv' := [(6, .int r), (5, .int 0), (0, .ref z), (1, .ref (a 0)), (2, .ref (b 0)), (3, .ref o), (4, .int x4)]) hx hb dL_law_227 hl (by decide) rfl (fun ls hl => ?_)
    refine lv_aload_n hx hb dL_law_229 rfl (lv_at hl 4 rfl) ?_
    refine lawM_i (σ := σ') (τ := τ') (τ' := τ') (As := []) (rest := []) C (kX8_thrown l D y b t C.bI _ τ' (τ'.1 0 0) rfl) (cwV 0 hts (gAV aM_L_91 aI_X8_thrown aS_X8_thrown aN_X8 aC_X8_thrown) rfl rfl rfl eX8_thrown ⟨Nat.le_of_ble_eq_true rfl, Nat.le_of_ble_eq_true rfl⟩) rfl hl.1 rfl (Nat.le_of_ble_eq_true rfl) dL_law_230 ⟨by have := hc.1; omega, by have := hc.2; omega⟩ hPc hPm hS (fun H locs hPc hPm hS => ?_)
    refine lv_iload hx hb dL_law_233 (lv_at hl 1 rfl) ?_
    refine lv_icmp_eq (tgt := 240) hx hb dL_law_235 (by decide) (fun _ => ?_) (fun c1 => absurd h3 c1)
    refine lv_iload hx hb dL_law_240 (lv_at hl 1 rfl) ?_
    refine lv_if_ne (tgt := 257) hx hb dL_law_242 (by decide) (fun c1 => absurd rfl c1) (fun _ => ?_)
    refine lv_aload_n hx hb dL_law_245 rfl (lv_at hl 5 rfl) ?_
    refine lv_iconst (v := 0) hx hb dL_law_246 (by decide) ?_
    refine va_lald (i := 0) hx hb C.2.2.1 hPc 37 2 rfl rfl (by intro h; rcases h with h | h <;> revert h <;> decide) dL_law_247 ?_
    have e0 : vp_updL f 0 r.toInt64 (0 : Int32).toNatClampNeg = r.toInt64 := pk_uLs
    rw [e0]
    refine lv_iload hx hb dL_law_248 (lv_at hl 0 rfl) ?_
    refine lv_i2l (v := r.toInt64) hx hb dL_law_250 rfl ?_
    refine W.lcmp hx hb dL_law_251 ?_
    rw [lcmp_same]
    refine lv_if_eq (tgt := 257) hx hb dL_law_252 (by decide) (fun _ => ?_) (fun c1 => absurd rfl c1)
    refine lv_goto (tgt := 1557) hx hb dL_law_257 (by decide) ?_
    refine W.widen (k := cells + 200) (n := slots + 1600) (by omega) (by omega) ?_
    exact next σ' τ' (vp_updL f 0 r.toInt64) _ _ _ hR' hPc hPm hS (lv_sub hl [2, 3, 4, 5, 6] rfl)
  · skip
    refine lv_aload_n hx hb dL_law_156 rfl (lv_at hl 1 rfl) ?_
    refine argR C (n := 1) (v := 1) hS (lv_at hl 0 rfl) (lv_at hl 4 rfl) (by decide) (hin 1 (by omega)) e1 dL_law_157 dL_law_158 dL_law_160 dL_law_161 dL_law_162 ?_
    refine argR C (n := 2) (v := 2) hS (lv_at hl 0 rfl) (lv_at hl 4 rfl) (by decide) (hin 2 (by omega)) e2 dL_law_163 dL_law_164 dL_law_166 dL_law_167 dL_law_168 ?_
    refine argR C (n := 3) (v := 3) hS (lv_at hl 0 rfl) (lv_at hl 4 rfl) (by decide) (hin 3 (by omega)) e3 dL_law_169 dL_law_170 dL_law_172 dL_law_173 dL_law_174 ?_
    refine argR C (n := 4) (v := 4) hS (lv_at hl 0 rfl) (lv_at hl 4 rfl) (by decide) (hin 4 (by omega)) e4 dL_law_175 dL_law_176 dL_law_178 dL_law_179 dL_law_180 ?_
    refine argR C (n := 5) (v := 5) hS (lv_at hl 0 rfl) (lv_at hl 4 rfl) (by decide) (hin 5 (by omega)) e5 dL_law_181 dL_law_182 dL_law_184 dL_law_185 dL_law_186 ?_
    refine lv_aload_n hx hb dL_law_187 rfl (lv_at hl 3 rfl) ?_
    refine lawH (σ' := σ') (f' := f) (As := [.ref (a 0), .int p1, .int p2, .int p3, .int p4, .int p5, .ref o]) (rest := []) C (xL_feed_1 l C.2.2.2.2.2.1 D y a o t ts C.aI _ f σ σ' p1 p2 p3 p4 p5 h1) (vx_cwSW 7 hts (gAS aM_L_85 aT_L_feed aN_L aC_L_feed) rfl rfl rfl eL_feed ⟨Nat.le_of_ble_eq_true rfl, Nat.le_of_ble_eq_true rfl⟩) rfl hl.1 rfl (Nat.le_of_ble_eq_true rfl) dL_law_188 ⟨by have := hc.1; omega, by have := hc.2; omega⟩ hPc hPm hS (fun H locs hPc hPm hS => ?_)
    refine lv_istore (lv' := [(5, .int 1), (0, .ref z), (1, .ref (a 0)), (2, .ref (b 0)), (3, .ref o), (4, .int x4)]) hx hb dL_law_191 hl (by decide) rfl (fun ls hl => ?_)
    refine lv_aload_n hx hb dL_law_193 rfl (lv_at hl 3 rfl) ?_
    refine argR C (n := 1) (v := 1) hS (lv_at hl 1 rfl) (lv_at hl 5 rfl) (by decide) (hin 1 (by omega)) e1 dL_law_194 dL_law_195 dL_law_197 dL_law_198 dL_law_199 ?_
    refine argR C (n := 2) (v := 2) hS (lv_at hl 1 rfl) (lv_at hl 5 rfl) (by decide) (hin 2 (by omega)) e2 dL_law_200 dL_law_201 dL_law_203 dL_law_204 dL_law_205 ?_
    refine argR C (n := 3) (v := 3) hS (lv_at hl 1 rfl) (lv_at hl 5 rfl) (by decide) (hin 3 (by omega)) e3 dL_law_206 dL_law_207 dL_law_209 dL_law_210 dL_law_211 ?_
    refine argR C (n := 4) (v := 4) hS (lv_at hl 1 rfl) (lv_at hl 5 rfl) (by decide) (hin 4 (by omega)) e4 dL_law_212 dL_law_213 dL_law_215 dL_law_216 dL_law_217 ?_
    refine argR C (n := 5) (v := 5) hS (lv_at hl 1 rfl) (lv_at hl 5 rfl) (by decide) (hin 5 (by omega)) e5 dL_law_218 dL_law_219 dL_law_221 dL_law_222 dL_law_223 ?_
    refine lawM_i (σ := σ') (τ' := τ') (As := [.int p1, .int p2, .int p3, .int p4, .int p5]) (rest := []) C (kX8_feed l D y b t C.bI _ τ τ' p1 p2 p3 p4 p5 v h2) (cwV 5 hts (gAV aM_L_90 aI_X8_feed aS_X8_feed aN_X8 aC_X8_feed) rfl rfl rfl eX8_feed ⟨Nat.le_of_ble_eq_true rfl, Nat.le_of_ble_eq_true rfl⟩) rfl hl.1 rfl (Nat.le_of_ble_eq_true rfl) dL_law_224 ⟨by have := hc.1; omega, by have := hc.2; omega⟩ hPc hPm hS (fun H locs hPc hPm hS => ?_)
    refine lv_istore (lv' := [(6, .int v), (5, .int 1), (0, .ref z), (1, .ref (a 0)), (2, .ref (b 0)), (3, .ref o), (4, .int x4)]) hx hb dL_law_227 hl (by decide) rfl (fun ls hl => ?_)
    refine lv_aload_n hx hb dL_law_229 rfl (lv_at hl 4 rfl) ?_
    refine lawM_i (σ := σ') (τ := τ') (τ' := τ') (As := []) (rest := []) C (kX8_thrown l D y b t C.bI _ τ' (τ'.1 0 0) rfl) (cwV 0 hts (gAV aM_L_91 aI_X8_thrown aS_X8_thrown aN_X8 aC_X8_thrown) rfl rfl rfl eX8_thrown ⟨Nat.le_of_ble_eq_true rfl, Nat.le_of_ble_eq_true rfl⟩) rfl hl.1 rfl (Nat.le_of_ble_eq_true rfl) dL_law_230 ⟨by have := hc.1; omega, by have := hc.2; omega⟩ hPc hPm hS (fun H locs hPc hPm hS => ?_)
    refine lv_iload hx hb dL_law_233 (lv_at hl 1 rfl) ?_
    refine lv_icmp_eq (tgt := 240) hx hb dL_law_235 (by decide) (fun _ => ?_) (fun c1 => absurd h3 c1)
    refine lv_iload hx hb dL_law_240 (lv_at hl 1 rfl) ?_
    refine lv_if_ne (tgt := 257) hx hb dL_law_242 (by decide) (fun _ => ?_) (fun c1 => absurd c1 (by decide))
    refine lv_goto (tgt := 1557) hx hb dL_law_257 (by decide) ?_
    refine W.widen (k := cells + 200) (n := slots + 1600) (by omega) (by omega) ?_
    exact next σ' τ' (f) _ _ _ hR' hPc hPm hS (lv_sub hl [2, 3, 4, 5, 6] rfl)
set_option maxHeartbeats 4000000 in
set_option maxRecDepth 100000 in
theorem law_trim {p : Program} {l : Launch} {e : Env} {s : State} {m : MethodId} {below : List Frame} {meth : Method} {c : Code} {D : va_G} {y : Nat → ClassId} {a b t ts : Nat → Nat} {o z L : Nat} {xs : Nat → Int32} (C : LX p l s m meth c D y a b t ts o z L xs) {Q : State → Prop} {cells slots : Nat} (hc : cells + 200 ≤ 601024 ∧ slots + 1600 ≤ 7293033) {x4 : Int32} (hin : ∀ d : Nat, d < 6 → vp_in (x4 + nI d) L) {σ τ : St} {f : Nat → Int64} {H : Heap} {locs : List Loc} {ls : Array Slot} (hR : RR σ τ) (hPc : va_P D vwCl (wO y a o f σ) H) (hPm : va_P D vwCl (wM y b τ) H) (hS : va_S (fun q => s.heap.size ≤ q) s.heap H locs) (hl : lv_has ls 9 [(0, .ref z), (1, .ref (a 0)), (2, .ref (b 0)), (3, .ref o), (4, .int x4)])
    (next : ∀ (σ τ : St) (f : Nat → Int64) (H : Heap) (locs : List Loc) (ls : Array Slot), RR σ τ → va_P D vwCl (wO y a o f σ) H → va_P D vwCl (wM y b τ) H → va_S (fun q => s.heap.size ≤ q) s.heap H locs → lv_has ls 9 [(0, .ref z), (1, .ref (a 0)), (2, .ref (b 0)), (3, .ref o), (4, .int x4)] → W p l e room_1 s m #[Value.ref z] below meth c H locs (cells + 200) (slots + 1600) Q (F0 m 1557 ls [])) : W p l e room_1 s m #[Value.ref z] below meth c H locs cells slots Q (F0 m 260 ls []) := by
  have hx := C.1.1
  have hb := C.1.2.1
  have hown := C.1.2.2.2.1
  have hts := C.1.2.2.2.2.1
  obtain ⟨p1, e1⟩ : ∃ q, q = xs (x4 + 1).toNatClampNeg := ⟨_, rfl⟩
  rcases P_trim hR p1 with ⟨r, σ', τ', h1, h2, h3, hR'⟩ | ⟨v, σ', τ', h1, h2, h3, hR'⟩
  · skip
    refine lv_aload_n hx hb dL_law_260 rfl (lv_at hl 1 rfl) ?_
    refine argR C (n := 1) (v := 1) hS (lv_at hl 0 rfl) (lv_at hl 4 rfl) (by decide) (hin 1 (by omega)) e1 dL_law_261 dL_law_262 dL_law_264 dL_law_265 dL_law_266 ?_
    refine lv_aload_n hx hb dL_law_267 rfl (lv_at hl 3 rfl) ?_
    refine lawH (σ' := σ') (f' := vp_updL f 0 r.toInt64) (As := [.ref (a 0), .int p1, .ref o]) (rest := []) C (kL_trim l D y a o t ts C.aI _ f σ σ' p1 r h1) (vx_cwSW 3 hts (gAS aM_L_94 aT_L_trim aN_L aC_L_trim) rfl rfl rfl eL_trim ⟨Nat.le_of_ble_eq_true rfl, Nat.le_of_ble_eq_true rfl⟩) rfl hl.1 rfl (Nat.le_of_ble_eq_true rfl) dL_law_268 ⟨by have := hc.1; omega, by have := hc.2; omega⟩ hPc hPm hS (fun H locs hPc hPm hS => ?_)
    refine lv_istore (lv' := [(5, .int 0), (0, .ref z), (1, .ref (a 0)), (2, .ref (b 0)), (3, .ref o), (4, .int x4)]) hx hb dL_law_271 hl (by decide) rfl (fun ls hl => ?_)
    refine lv_aload_n hx hb dL_law_273 rfl (lv_at hl 3 rfl) ?_
    refine argR C (n := 1) (v := 1) hS (lv_at hl 1 rfl) (lv_at hl 5 rfl) (by decide) (hin 1 (by omega)) e1 dL_law_274 dL_law_275 dL_law_277 dL_law_278 dL_law_279 ?_
    refine lawM_i (σ := σ') (τ' := τ') (As := [.int p1]) (rest := []) C (kX8_trim l D y b t C.bI _ τ τ' p1 r h2) (cwV 1 hts (gAV aM_L_97 aI_X8_trim aS_X8_trim aN_X8 aC_X8_trim) rfl rfl rfl eX8_trim ⟨Nat.le_of_ble_eq_true rfl, Nat.le_of_ble_eq_true rfl⟩) rfl hl.1 rfl (Nat.le_of_ble_eq_true rfl) dL_law_280 ⟨by have := hc.1; omega, by have := hc.2; omega⟩ hPc hPm hS (fun H locs hPc hPm hS => ?_)
    refine lv_istore (lv' := [(6, .int r), (5, .int 0), (0, .ref z), (1, .ref (a 0)), (2, .ref (b 0)), (3, .ref o), (4, .int x4)]) hx hb dL_law_283 hl (by decide) rfl (fun ls hl => ?_)
    refine lv_aload_n hx hb dL_law_285 rfl (lv_at hl 4 rfl) ?_
    refine lawM_i (σ := σ') (τ := τ') (τ' := τ') (As := []) (rest := []) C (kX8_thrown l D y b t C.bI _ τ' (τ'.1 0 0) rfl) (cwV 0 hts (gAV aM_L_91 aI_X8_thrown aS_X8_thrown aN_X8 aC_X8_thrown) rfl rfl rfl eX8_thrown ⟨Nat.le_of_ble_eq_true rfl, Nat.le_of_ble_eq_true rfl⟩) rfl hl.1 rfl (Nat.le_of_ble_eq_true rfl) dL_law_286 ⟨by have := hc.1; omega, by have := hc.2; omega⟩ hPc hPm hS (fun H locs hPc hPm hS => ?_)
    refine lv_iload hx hb dL_law_289 (lv_at hl 1 rfl) ?_
    refine lv_icmp_eq (tgt := 296) hx hb dL_law_291 (by decide) (fun _ => ?_) (fun c1 => absurd h3 c1)
    refine lv_iload hx hb dL_law_296 (lv_at hl 1 rfl) ?_
    refine lv_if_ne (tgt := 313) hx hb dL_law_298 (by decide) (fun c1 => absurd rfl c1) (fun _ => ?_)
    refine lv_aload_n hx hb dL_law_301 rfl (lv_at hl 5 rfl) ?_
    refine lv_iconst (v := 0) hx hb dL_law_302 (by decide) ?_
    refine va_lald (i := 0) hx hb C.2.2.1 hPc 37 2 rfl rfl (by intro h; rcases h with h | h <;> revert h <;> decide) dL_law_303 ?_
    have e0 : vp_updL f 0 r.toInt64 (0 : Int32).toNatClampNeg = r.toInt64 := pk_uLs
    rw [e0]
    refine lv_iload hx hb dL_law_304 (lv_at hl 0 rfl) ?_
    refine lv_i2l (v := r.toInt64) hx hb dL_law_306 rfl ?_
    refine W.lcmp hx hb dL_law_307 ?_
    rw [lcmp_same]
    refine lv_if_eq (tgt := 313) hx hb dL_law_308 (by decide) (fun _ => ?_) (fun c1 => absurd rfl c1)
    refine lv_goto (tgt := 1557) hx hb dL_law_313 (by decide) ?_
    refine W.widen (k := cells + 200) (n := slots + 1600) (by omega) (by omega) ?_
    exact next σ' τ' (vp_updL f 0 r.toInt64) _ _ _ hR' hPc hPm hS (lv_sub hl [2, 3, 4, 5, 6] rfl)
  · skip
    refine lv_aload_n hx hb dL_law_260 rfl (lv_at hl 1 rfl) ?_
    refine argR C (n := 1) (v := 1) hS (lv_at hl 0 rfl) (lv_at hl 4 rfl) (by decide) (hin 1 (by omega)) e1 dL_law_261 dL_law_262 dL_law_264 dL_law_265 dL_law_266 ?_
    refine lv_aload_n hx hb dL_law_267 rfl (lv_at hl 3 rfl) ?_
    refine lawH (σ' := σ') (f' := f) (As := [.ref (a 0), .int p1, .ref o]) (rest := []) C (xL_trim_2 l C.2.2.2.2.2.1 D y a o t ts C.aI _ f σ σ' p1 h1) (vx_cwSW 3 hts (gAS aM_L_94 aT_L_trim aN_L aC_L_trim) rfl rfl rfl eL_trim ⟨Nat.le_of_ble_eq_true rfl, Nat.le_of_ble_eq_true rfl⟩) rfl hl.1 rfl (Nat.le_of_ble_eq_true rfl) dL_law_268 ⟨by have := hc.1; omega, by have := hc.2; omega⟩ hPc hPm hS (fun H locs hPc hPm hS => ?_)
    refine lv_istore (lv' := [(5, .int 1), (0, .ref z), (1, .ref (a 0)), (2, .ref (b 0)), (3, .ref o), (4, .int x4)]) hx hb dL_law_271 hl (by decide) rfl (fun ls hl => ?_)
    refine lv_aload_n hx hb dL_law_273 rfl (lv_at hl 3 rfl) ?_
    refine argR C (n := 1) (v := 1) hS (lv_at hl 1 rfl) (lv_at hl 5 rfl) (by decide) (hin 1 (by omega)) e1 dL_law_274 dL_law_275 dL_law_277 dL_law_278 dL_law_279 ?_
    refine lawM_i (σ := σ') (τ' := τ') (As := [.int p1]) (rest := []) C (kX8_trim l D y b t C.bI _ τ τ' p1 v h2) (cwV 1 hts (gAV aM_L_97 aI_X8_trim aS_X8_trim aN_X8 aC_X8_trim) rfl rfl rfl eX8_trim ⟨Nat.le_of_ble_eq_true rfl, Nat.le_of_ble_eq_true rfl⟩) rfl hl.1 rfl (Nat.le_of_ble_eq_true rfl) dL_law_280 ⟨by have := hc.1; omega, by have := hc.2; omega⟩ hPc hPm hS (fun H locs hPc hPm hS => ?_)
    refine lv_istore (lv' := [(6, .int v), (5, .int 1), (0, .ref z), (1, .ref (a 0)), (2, .ref (b 0)), (3, .ref o), (4, .int x4)]) hx hb dL_law_283 hl (by decide) rfl (fun ls hl => ?_)
    refine lv_aload_n hx hb dL_law_285 rfl (lv_at hl 4 rfl) ?_
    refine lawM_i (σ := σ') (τ := τ') (τ' := τ') (As := []) (rest := []) C (kX8_thrown l D y b t C.bI _ τ' (τ'.1 0 0) rfl) (cwV 0 hts (gAV aM_L_91 aI_X8_thrown aS_X8_thrown aN_X8 aC_X8_thrown) rfl rfl rfl eX8_thrown ⟨Nat.le_of_ble_eq_true rfl, Nat.le_of_ble_eq_true rfl⟩) rfl hl.1 rfl (Nat.le_of_ble_eq_true rfl) dL_law_286 ⟨by have := hc.1; omega, by have := hc.2; omega⟩ hPc hPm hS (fun H locs hPc hPm hS => ?_)
    refine lv_iload hx hb dL_law_289 (lv_at hl 1 rfl) ?_
    refine lv_icmp_eq (tgt := 296) hx hb dL_law_291 (by decide) (fun _ => ?_) (fun c1 => absurd h3 c1)
    refine lv_iload hx hb dL_law_296 (lv_at hl 1 rfl) ?_
    refine lv_if_ne (tgt := 313) hx hb dL_law_298 (by decide) (fun _ => ?_) (fun c1 => absurd c1 (by decide))
    refine lv_goto (tgt := 1557) hx hb dL_law_313 (by decide) ?_
    refine W.widen (k := cells + 200) (n := slots + 1600) (by omega) (by omega) ?_
    exact next σ' τ' (f) _ _ _ hR' hPc hPm hS (lv_sub hl [2, 3, 4, 5, 6] rfl)
set_option maxHeartbeats 4000000 in
set_option maxRecDepth 100000 in
theorem law_read {p : Program} {l : Launch} {e : Env} {s : State} {m : MethodId} {below : List Frame} {meth : Method} {c : Code} {D : va_G} {y : Nat → ClassId} {a b t ts : Nat → Nat} {o z L : Nat} {xs : Nat → Int32} (C : LX p l s m meth c D y a b t ts o z L xs) {Q : State → Prop} {cells slots : Nat} (hc : cells + 200 ≤ 601024 ∧ slots + 1600 ≤ 7293033) {x4 : Int32} {σ τ : St} {f : Nat → Int64} {H : Heap} {locs : List Loc} {ls : Array Slot} (hR : RR σ τ) (hPc : va_P D vwCl (wO y a o f σ) H) (hPm : va_P D vwCl (wM y b τ) H) (hS : va_S (fun q => s.heap.size ≤ q) s.heap H locs) (hl : lv_has ls 9 [(0, .ref z), (1, .ref (a 0)), (2, .ref (b 0)), (3, .ref o), (4, .int x4)])
    (next : ∀ (σ τ : St) (f : Nat → Int64) (H : Heap) (locs : List Loc) (ls : Array Slot), RR σ τ → va_P D vwCl (wO y a o f σ) H → va_P D vwCl (wM y b τ) H → va_S (fun q => s.heap.size ≤ q) s.heap H locs → lv_has ls 9 [(0, .ref z), (1, .ref (a 0)), (2, .ref (b 0)), (3, .ref o), (4, .int x4)] → W p l e room_1 s m #[Value.ref z] below meth c H locs (cells + 200) (slots + 1600) Q (F0 m 1557 ls [])) : W p l e room_1 s m #[Value.ref z] below meth c H locs cells slots Q (F0 m 316 ls []) := by
  have hx := C.1.1
  have hb := C.1.2.1
  have hown := C.1.2.2.2.1
  have hts := C.1.2.2.2.2.1
  obtain ⟨r, σ', τ', h1, h2, hR'⟩ := P_read hR
  refine lv_aload_n hx hb dL_law_316 rfl (lv_at hl 1 rfl) ?_
  refine lawX_i (σ' := σ') (As := []) (rest := []) C (kX7_read l D y a t (ao_I C.aI) _ σ σ' r h1) (cwV 0 hts (gAV aM_L_98 aI_X7_read aS_X7_read aN_X7 aC_X7_read) rfl rfl rfl eX7_read ⟨Nat.le_of_ble_eq_true rfl, Nat.le_of_ble_eq_true rfl⟩) rfl hl.1 rfl (Nat.le_of_ble_eq_true rfl) dL_law_317 ⟨by have := hc.1; omega, by have := hc.2; omega⟩ hPc hPm hS (fun H locs hPc hPm hS => ?_)
  refine lv_aload_n hx hb dL_law_320 rfl (lv_at hl 2 rfl) ?_
  refine lawM_i (σ := σ') (τ' := τ') (As := []) (rest := [.int r]) C (kX8_read l D y b t C.bI _ τ τ' r h2) (cwV 0 hts (gAV aM_L_101 aI_X8_read aS_X8_read aN_X8 aC_X8_read) rfl rfl rfl eX8_read ⟨Nat.le_of_ble_eq_true rfl, Nat.le_of_ble_eq_true rfl⟩) rfl hl.1 rfl (Nat.le_of_ble_eq_true rfl) dL_law_321 ⟨by have := hc.1; omega, by have := hc.2; omega⟩ hPc hPm hS (fun H locs hPc hPm hS => ?_)
  refine lv_icmp_eq (tgt := 1557) hx hb dL_law_324 (by decide) (fun _ => ?_) (fun c1 => absurd rfl c1)
  refine W.widen (k := cells + 200) (n := slots + 1600) (by omega) (by omega) ?_
  exact next σ' τ' f _ _ _ hR' hPc hPm hS (lv_sub hl [0, 1, 2, 3, 4] rfl)
set_option maxHeartbeats 4000000 in
set_option maxRecDepth 100000 in
theorem law_errorAt {p : Program} {l : Launch} {e : Env} {s : State} {m : MethodId} {below : List Frame} {meth : Method} {c : Code} {D : va_G} {y : Nat → ClassId} {a b t ts : Nat → Nat} {o z L : Nat} {xs : Nat → Int32} (C : LX p l s m meth c D y a b t ts o z L xs) {Q : State → Prop} {cells slots : Nat} (hc : cells + 200 ≤ 601024 ∧ slots + 1600 ≤ 7293033) {x4 : Int32} {σ τ : St} {f : Nat → Int64} {H : Heap} {locs : List Loc} {ls : Array Slot} (hR : RR σ τ) (hPc : va_P D vwCl (wO y a o f σ) H) (hPm : va_P D vwCl (wM y b τ) H) (hS : va_S (fun q => s.heap.size ≤ q) s.heap H locs) (hl : lv_has ls 9 [(0, .ref z), (1, .ref (a 0)), (2, .ref (b 0)), (3, .ref o), (4, .int x4)])
    (next : ∀ (σ τ : St) (f : Nat → Int64) (H : Heap) (locs : List Loc) (ls : Array Slot), RR σ τ → va_P D vwCl (wO y a o f σ) H → va_P D vwCl (wM y b τ) H → va_S (fun q => s.heap.size ≤ q) s.heap H locs → lv_has ls 9 [(0, .ref z), (1, .ref (a 0)), (2, .ref (b 0)), (3, .ref o), (4, .int x4)] → W p l e room_1 s m #[Value.ref z] below meth c H locs (cells + 200) (slots + 1600) Q (F0 m 1557 ls [])) : W p l e room_1 s m #[Value.ref z] below meth c H locs cells slots Q (F0 m 329 ls []) := by
  have hx := C.1.1
  have hb := C.1.2.1
  have hown := C.1.2.2.2.1
  have hts := C.1.2.2.2.2.1
  obtain ⟨r, τ', h1, h2, hR'⟩ := P_errorAt hR
  refine lv_aload_n hx hb dL_law_329 rfl (lv_at hl 1 rfl) ?_
  refine lawX_i (σ' := σ) (As := []) (rest := []) C (kX7_errorAt l D y a t (ao_I C.aI) _ σ r h1) (cwV 0 hts (gAV aM_L_102 aI_X7_errorAt aS_X7_errorAt aN_X7 aC_X7_errorAt) rfl rfl rfl eX7_errorAt ⟨Nat.le_of_ble_eq_true rfl, Nat.le_of_ble_eq_true rfl⟩) rfl hl.1 rfl (Nat.le_of_ble_eq_true rfl) dL_law_330 ⟨by have := hc.1; omega, by have := hc.2; omega⟩ hPc hPm hS (fun H locs hPc hPm hS => ?_)
  refine lv_aload_n hx hb dL_law_333 rfl (lv_at hl 2 rfl) ?_
  refine lawM_i (σ := σ) (τ' := τ') (As := []) (rest := [.int r]) C (kX8_errorAt l D y b t C.bI _ τ τ' r h2) (cwV 0 hts (gAV aM_L_105 aI_X8_errorAt aS_X8_errorAt aN_X8 aC_X8_errorAt) rfl rfl rfl eX8_errorAt ⟨Nat.le_of_ble_eq_true rfl, Nat.le_of_ble_eq_true rfl⟩) rfl hl.1 rfl (Nat.le_of_ble_eq_true rfl) dL_law_334 ⟨by have := hc.1; omega, by have := hc.2; omega⟩ hPc hPm hS (fun H locs hPc hPm hS => ?_)
  refine lv_icmp_eq (tgt := 1557) hx hb dL_law_337 (by decide) (fun _ => ?_) (fun c1 => absurd rfl c1)
  refine W.widen (k := cells + 200) (n := slots + 1600) (by omega) (by omega) ?_
  exact next σ τ' f _ _ _ hR' hPc hPm hS (lv_sub hl [0, 1, 2, 3, 4] rfl)
set_option maxHeartbeats 4000000 in
set_option maxRecDepth 100000 in
theorem law_make {p : Program} {l : Launch} {e : Env} {s : State} {m : MethodId} {below : List Frame} {meth : Method} {c : Code} {D : va_G} {y : Nat → ClassId} {a b t ts : Nat → Nat} {o z L : Nat} {xs : Nat → Int32} (C : LX p l s m meth c D y a b t ts o z L xs) {Q : State → Prop} {cells slots : Nat} (hc : cells + 200 ≤ 601024 ∧ slots + 1600 ≤ 7293033) {x4 : Int32} (hin : ∀ d : Nat, d < 6 → vp_in (x4 + nI d) L) {σ τ : St} {f : Nat → Int64} {H : Heap} {locs : List Loc} {ls : Array Slot} (hR : RR σ τ) (hPc : va_P D vwCl (wO y a o f σ) H) (hPm : va_P D vwCl (wM y b τ) H) (hS : va_S (fun q => s.heap.size ≤ q) s.heap H locs) (hl : lv_has ls 9 [(0, .ref z), (1, .ref (a 0)), (2, .ref (b 0)), (3, .ref o), (4, .int x4)])
    (next : ∀ (σ τ : St) (f : Nat → Int64) (H : Heap) (locs : List Loc) (ls : Array Slot), RR σ τ → va_P D vwCl (wO y a o f σ) H → va_P D vwCl (wM y b τ) H → va_S (fun q => s.heap.size ≤ q) s.heap H locs → lv_has ls 9 [(0, .ref z), (1, .ref (a 0)), (2, .ref (b 0)), (3, .ref o), (4, .int x4)] → W p l e room_1 s m #[Value.ref z] below meth c H locs (cells + 200) (slots + 1600) Q (F0 m 1557 ls [])) : W p l e room_1 s m #[Value.ref z] below meth c H locs cells slots Q (F0 m 342 ls []) := by
  have hx := C.1.1
  have hb := C.1.2.1
  have hown := C.1.2.2.2.1
  have hts := C.1.2.2.2.2.1
  obtain ⟨p1, e1⟩ : ∃ q, q = xs (x4 + 1).toNatClampNeg := ⟨_, rfl⟩
  obtain ⟨p2, e2⟩ : ∃ q, q = xs (x4 + 2).toNatClampNeg := ⟨_, rfl⟩
  obtain ⟨p3, e3⟩ : ∃ q, q = xs (x4 + 3).toNatClampNeg := ⟨_, rfl⟩
  rcases P_make hR p1 p2 p3 with ⟨r, σ', τ', h1, h2, h3, hR'⟩ | ⟨v, σ', τ', h1, h2, h3, hR'⟩ | ⟨v, σ', τ', h1, h2, h3, hR'⟩ | ⟨v, σ', τ', h1, h2, h3, hR'⟩
  · skip
    refine lv_aload_n hx hb dL_law_342 rfl (lv_at hl 1 rfl) ?_
    refine argR C (n := 1) (v := 1) hS (lv_at hl 0 rfl) (lv_at hl 4 rfl) (by decide) (hin 1 (by omega)) e1 dL_law_343 dL_law_344 dL_law_346 dL_law_347 dL_law_348 ?_
    refine argR C (n := 2) (v := 2) hS (lv_at hl 0 rfl) (lv_at hl 4 rfl) (by decide) (hin 2 (by omega)) e2 dL_law_349 dL_law_350 dL_law_352 dL_law_353 dL_law_354 ?_
    refine argR C (n := 3) (v := 3) hS (lv_at hl 0 rfl) (lv_at hl 4 rfl) (by decide) (hin 3 (by omega)) e3 dL_law_355 dL_law_356 dL_law_358 dL_law_359 dL_law_360 ?_
    refine lv_aload_n hx hb dL_law_361 rfl (lv_at hl 3 rfl) ?_
    refine lawH (σ' := σ') (f' := vp_updL f 0 r.toInt64) (As := [.ref (a 0), .int p1, .int p2, .int p3, .ref o]) (rest := []) C (kL_make l D y a o t ts C.aI _ f σ σ' p1 p2 p3 r h1) (vx_cwSW 5 hts (gAS aM_L_106 aT_L_make aN_L aC_L_make) rfl rfl rfl eL_make ⟨Nat.le_of_ble_eq_true rfl, Nat.le_of_ble_eq_true rfl⟩) rfl hl.1 rfl (Nat.le_of_ble_eq_true rfl) dL_law_362 ⟨by have := hc.1; omega, by have := hc.2; omega⟩ hPc hPm hS (fun H locs hPc hPm hS => ?_)
    refine lv_istore (lv' := [(5, .int 0), (0, .ref z), (1, .ref (a 0)), (2, .ref (b 0)), (3, .ref o), (4, .int x4)]) hx hb dL_law_365 hl (by decide) rfl (fun ls hl => ?_)
    refine lv_aload_n hx hb dL_law_367 rfl (lv_at hl 3 rfl) ?_
    refine argR C (n := 1) (v := 1) hS (lv_at hl 1 rfl) (lv_at hl 5 rfl) (by decide) (hin 1 (by omega)) e1 dL_law_368 dL_law_369 dL_law_371 dL_law_372 dL_law_373 ?_
    refine argR C (n := 2) (v := 2) hS (lv_at hl 1 rfl) (lv_at hl 5 rfl) (by decide) (hin 2 (by omega)) e2 dL_law_374 dL_law_375 dL_law_377 dL_law_378 dL_law_379 ?_
    refine argR C (n := 3) (v := 3) hS (lv_at hl 1 rfl) (lv_at hl 5 rfl) (by decide) (hin 3 (by omega)) e3 dL_law_380 dL_law_381 dL_law_383 dL_law_384 dL_law_385 ?_
    refine lawM_i (σ := σ') (τ' := τ') (As := [.int p1, .int p2, .int p3]) (rest := []) C (kX8_make l D y b t C.bI _ τ τ' p1 p2 p3 r h2) (cwV 3 hts (gAV aM_L_109 aI_X8_make aS_X8_make aN_X8 aC_X8_make) rfl rfl rfl eX8_make ⟨Nat.le_of_ble_eq_true rfl, Nat.le_of_ble_eq_true rfl⟩) rfl hl.1 rfl (Nat.le_of_ble_eq_true rfl) dL_law_386 ⟨by have := hc.1; omega, by have := hc.2; omega⟩ hPc hPm hS (fun H locs hPc hPm hS => ?_)
    refine lv_istore (lv' := [(6, .int r), (5, .int 0), (0, .ref z), (1, .ref (a 0)), (2, .ref (b 0)), (3, .ref o), (4, .int x4)]) hx hb dL_law_389 hl (by decide) rfl (fun ls hl => ?_)
    refine lv_aload_n hx hb dL_law_391 rfl (lv_at hl 4 rfl) ?_
    refine lawM_i (σ := σ') (τ := τ') (τ' := τ') (As := []) (rest := []) C (kX8_thrown l D y b t C.bI _ τ' (τ'.1 0 0) rfl) (cwV 0 hts (gAV aM_L_91 aI_X8_thrown aS_X8_thrown aN_X8 aC_X8_thrown) rfl rfl rfl eX8_thrown ⟨Nat.le_of_ble_eq_true rfl, Nat.le_of_ble_eq_true rfl⟩) rfl hl.1 rfl (Nat.le_of_ble_eq_true rfl) dL_law_392 ⟨by have := hc.1; omega, by have := hc.2; omega⟩ hPc hPm hS (fun H locs hPc hPm hS => ?_)
    refine lv_iload hx hb dL_law_395 (lv_at hl 1 rfl) ?_
    refine lv_icmp_eq (tgt := 402) hx hb dL_law_397 (by decide) (fun _ => ?_) (fun c1 => absurd h3 c1)
    refine lv_iload hx hb dL_law_402 (lv_at hl 1 rfl) ?_
    refine lv_if_ne (tgt := 419) hx hb dL_law_404 (by decide) (fun c1 => absurd rfl c1) (fun _ => ?_)
    refine lv_aload_n hx hb dL_law_407 rfl (lv_at hl 5 rfl) ?_
    refine lv_iconst (v := 0) hx hb dL_law_408 (by decide) ?_
    refine va_lald (i := 0) hx hb C.2.2.1 hPc 37 2 rfl rfl (by intro h; rcases h with h | h <;> revert h <;> decide) dL_law_409 ?_
    have e0 : vp_updL f 0 r.toInt64 (0 : Int32).toNatClampNeg = r.toInt64 := pk_uLs
    rw [e0]
    refine lv_iload hx hb dL_law_410 (lv_at hl 0 rfl) ?_
    refine lv_i2l (v := r.toInt64) hx hb dL_law_412 rfl ?_
    refine W.lcmp hx hb dL_law_413 ?_
    rw [lcmp_same]
    refine lv_if_eq (tgt := 419) hx hb dL_law_414 (by decide) (fun _ => ?_) (fun c1 => absurd rfl c1)
    refine lv_goto (tgt := 1557) hx hb dL_law_419 (by decide) ?_
    refine W.widen (k := cells + 200) (n := slots + 1600) (by omega) (by omega) ?_
    exact next σ' τ' (vp_updL f 0 r.toInt64) _ _ _ hR' hPc hPm hS (lv_sub hl [2, 3, 4, 5, 6] rfl)
  · skip
    refine lv_aload_n hx hb dL_law_342 rfl (lv_at hl 1 rfl) ?_
    refine argR C (n := 1) (v := 1) hS (lv_at hl 0 rfl) (lv_at hl 4 rfl) (by decide) (hin 1 (by omega)) e1 dL_law_343 dL_law_344 dL_law_346 dL_law_347 dL_law_348 ?_
    refine argR C (n := 2) (v := 2) hS (lv_at hl 0 rfl) (lv_at hl 4 rfl) (by decide) (hin 2 (by omega)) e2 dL_law_349 dL_law_350 dL_law_352 dL_law_353 dL_law_354 ?_
    refine argR C (n := 3) (v := 3) hS (lv_at hl 0 rfl) (lv_at hl 4 rfl) (by decide) (hin 3 (by omega)) e3 dL_law_355 dL_law_356 dL_law_358 dL_law_359 dL_law_360 ?_
    refine lv_aload_n hx hb dL_law_361 rfl (lv_at hl 3 rfl) ?_
    refine lawH (σ' := σ') (f' := f) (As := [.ref (a 0), .int p1, .int p2, .int p3, .ref o]) (rest := []) C (xL_make_2 l C.2.2.2.2.2.1 D y a o t ts C.aI _ f σ σ' p1 p2 p3 h1) (vx_cwSW 5 hts (gAS aM_L_106 aT_L_make aN_L aC_L_make) rfl rfl rfl eL_make ⟨Nat.le_of_ble_eq_true rfl, Nat.le_of_ble_eq_true rfl⟩) rfl hl.1 rfl (Nat.le_of_ble_eq_true rfl) dL_law_362 ⟨by have := hc.1; omega, by have := hc.2; omega⟩ hPc hPm hS (fun H locs hPc hPm hS => ?_)
    refine lv_istore (lv' := [(5, .int 1), (0, .ref z), (1, .ref (a 0)), (2, .ref (b 0)), (3, .ref o), (4, .int x4)]) hx hb dL_law_365 hl (by decide) rfl (fun ls hl => ?_)
    refine lv_aload_n hx hb dL_law_367 rfl (lv_at hl 3 rfl) ?_
    refine argR C (n := 1) (v := 1) hS (lv_at hl 1 rfl) (lv_at hl 5 rfl) (by decide) (hin 1 (by omega)) e1 dL_law_368 dL_law_369 dL_law_371 dL_law_372 dL_law_373 ?_
    refine argR C (n := 2) (v := 2) hS (lv_at hl 1 rfl) (lv_at hl 5 rfl) (by decide) (hin 2 (by omega)) e2 dL_law_374 dL_law_375 dL_law_377 dL_law_378 dL_law_379 ?_
    refine argR C (n := 3) (v := 3) hS (lv_at hl 1 rfl) (lv_at hl 5 rfl) (by decide) (hin 3 (by omega)) e3 dL_law_380 dL_law_381 dL_law_383 dL_law_384 dL_law_385 ?_
    refine lawM_i (σ := σ') (τ' := τ') (As := [.int p1, .int p2, .int p3]) (rest := []) C (kX8_make l D y b t C.bI _ τ τ' p1 p2 p3 v h2) (cwV 3 hts (gAV aM_L_109 aI_X8_make aS_X8_make aN_X8 aC_X8_make) rfl rfl rfl eX8_make ⟨Nat.le_of_ble_eq_true rfl, Nat.le_of_ble_eq_true rfl⟩) rfl hl.1 rfl (Nat.le_of_ble_eq_true rfl) dL_law_386 ⟨by have := hc.1; omega, by have := hc.2; omega⟩ hPc hPm hS (fun H locs hPc hPm hS => ?_)
    refine lv_istore (lv' := [(6, .int v), (5, .int 1), (0, .ref z), (1, .ref (a 0)), (2, .ref (b 0)), (3, .ref o), (4, .int x4)]) hx hb dL_law_389 hl (by decide) rfl (fun ls hl => ?_)
    refine lv_aload_n hx hb dL_law_391 rfl (lv_at hl 4 rfl) ?_
    refine lawM_i (σ := σ') (τ := τ') (τ' := τ') (As := []) (rest := []) C (kX8_thrown l D y b t C.bI _ τ' (τ'.1 0 0) rfl) (cwV 0 hts (gAV aM_L_91 aI_X8_thrown aS_X8_thrown aN_X8 aC_X8_thrown) rfl rfl rfl eX8_thrown ⟨Nat.le_of_ble_eq_true rfl, Nat.le_of_ble_eq_true rfl⟩) rfl hl.1 rfl (Nat.le_of_ble_eq_true rfl) dL_law_392 ⟨by have := hc.1; omega, by have := hc.2; omega⟩ hPc hPm hS (fun H locs hPc hPm hS => ?_)
    refine lv_iload hx hb dL_law_395 (lv_at hl 1 rfl) ?_
    refine lv_icmp_eq (tgt := 402) hx hb dL_law_397 (by decide) (fun _ => ?_) (fun c1 => absurd h3 c1)
    refine lv_iload hx hb dL_law_402 (lv_at hl 1 rfl) ?_
    refine lv_if_ne (tgt := 419) hx hb dL_law_404 (by decide) (fun _ => ?_) (fun c1 => absurd c1 (by decide))
    refine lv_goto (tgt := 1557) hx hb dL_law_419 (by decide) ?_
    refine W.widen (k := cells + 200) (n := slots + 1600) (by omega) (by omega) ?_
    exact next σ' τ' (f) _ _ _ hR' hPc hPm hS (lv_sub hl [2, 3, 4, 5, 6] rfl)
  · skip
    refine lv_aload_n hx hb dL_law_342 rfl (lv_at hl 1 rfl) ?_
    refine argR C (n := 1) (v := 1) hS (lv_at hl 0 rfl) (lv_at hl 4 rfl) (by decide) (hin 1 (by omega)) e1 dL_law_343 dL_law_344 dL_law_346 dL_law_347 dL_law_348 ?_
    refine argR C (n := 2) (v := 2) hS (lv_at hl 0 rfl) (lv_at hl 4 rfl) (by decide) (hin 2 (by omega)) e2 dL_law_349 dL_law_350 dL_law_352 dL_law_353 dL_law_354 ?_
    refine argR C (n := 3) (v := 3) hS (lv_at hl 0 rfl) (lv_at hl 4 rfl) (by decide) (hin 3 (by omega)) e3 dL_law_355 dL_law_356 dL_law_358 dL_law_359 dL_law_360 ?_
    refine lv_aload_n hx hb dL_law_361 rfl (lv_at hl 3 rfl) ?_
    refine lawH (σ' := σ') (f' := f) (As := [.ref (a 0), .int p1, .int p2, .int p3, .ref o]) (rest := []) C (xL_make_3 l C.2.2.2.2.2.1 D y a o t ts C.aI _ f σ σ' p1 p2 p3 h1) (vx_cwSW 5 hts (gAS aM_L_106 aT_L_make aN_L aC_L_make) rfl rfl rfl eL_make ⟨Nat.le_of_ble_eq_true rfl, Nat.le_of_ble_eq_true rfl⟩) rfl hl.1 rfl (Nat.le_of_ble_eq_true rfl) dL_law_362 ⟨by have := hc.1; omega, by have := hc.2; omega⟩ hPc hPm hS (fun H locs hPc hPm hS => ?_)
    refine lv_istore (lv' := [(5, .int 2), (0, .ref z), (1, .ref (a 0)), (2, .ref (b 0)), (3, .ref o), (4, .int x4)]) hx hb dL_law_365 hl (by decide) rfl (fun ls hl => ?_)
    refine lv_aload_n hx hb dL_law_367 rfl (lv_at hl 3 rfl) ?_
    refine argR C (n := 1) (v := 1) hS (lv_at hl 1 rfl) (lv_at hl 5 rfl) (by decide) (hin 1 (by omega)) e1 dL_law_368 dL_law_369 dL_law_371 dL_law_372 dL_law_373 ?_
    refine argR C (n := 2) (v := 2) hS (lv_at hl 1 rfl) (lv_at hl 5 rfl) (by decide) (hin 2 (by omega)) e2 dL_law_374 dL_law_375 dL_law_377 dL_law_378 dL_law_379 ?_
    refine argR C (n := 3) (v := 3) hS (lv_at hl 1 rfl) (lv_at hl 5 rfl) (by decide) (hin 3 (by omega)) e3 dL_law_380 dL_law_381 dL_law_383 dL_law_384 dL_law_385 ?_
    refine lawM_i (σ := σ') (τ' := τ') (As := [.int p1, .int p2, .int p3]) (rest := []) C (kX8_make l D y b t C.bI _ τ τ' p1 p2 p3 v h2) (cwV 3 hts (gAV aM_L_109 aI_X8_make aS_X8_make aN_X8 aC_X8_make) rfl rfl rfl eX8_make ⟨Nat.le_of_ble_eq_true rfl, Nat.le_of_ble_eq_true rfl⟩) rfl hl.1 rfl (Nat.le_of_ble_eq_true rfl) dL_law_386 ⟨by have := hc.1; omega, by have := hc.2; omega⟩ hPc hPm hS (fun H locs hPc hPm hS => ?_)
    refine lv_istore (lv' := [(6, .int v), (5, .int 2), (0, .ref z), (1, .ref (a 0)), (2, .ref (b 0)), (3, .ref o), (4, .int x4)]) hx hb dL_law_389 hl (by decide) rfl (fun ls hl => ?_)
    refine lv_aload_n hx hb dL_law_391 rfl (lv_at hl 4 rfl) ?_
    refine lawM_i (σ := σ') (τ := τ') (τ' := τ') (As := []) (rest := []) C (kX8_thrown l D y b t C.bI _ τ' (τ'.1 0 0) rfl) (cwV 0 hts (gAV aM_L_91 aI_X8_thrown aS_X8_thrown aN_X8 aC_X8_thrown) rfl rfl rfl eX8_thrown ⟨Nat.le_of_ble_eq_true rfl, Nat.le_of_ble_eq_true rfl⟩) rfl hl.1 rfl (Nat.le_of_ble_eq_true rfl) dL_law_392 ⟨by have := hc.1; omega, by have := hc.2; omega⟩ hPc hPm hS (fun H locs hPc hPm hS => ?_)
    refine lv_iload hx hb dL_law_395 (lv_at hl 1 rfl) ?_
    refine lv_icmp_eq (tgt := 402) hx hb dL_law_397 (by decide) (fun _ => ?_) (fun c1 => absurd h3 c1)
    refine lv_iload hx hb dL_law_402 (lv_at hl 1 rfl) ?_
    refine lv_if_ne (tgt := 419) hx hb dL_law_404 (by decide) (fun _ => ?_) (fun c1 => absurd c1 (by decide))
    refine lv_goto (tgt := 1557) hx hb dL_law_419 (by decide) ?_
    refine W.widen (k := cells + 200) (n := slots + 1600) (by omega) (by omega) ?_
    exact next σ' τ' (f) _ _ _ hR' hPc hPm hS (lv_sub hl [2, 3, 4, 5, 6] rfl)
  · skip
    refine lv_aload_n hx hb dL_law_342 rfl (lv_at hl 1 rfl) ?_
    refine argR C (n := 1) (v := 1) hS (lv_at hl 0 rfl) (lv_at hl 4 rfl) (by decide) (hin 1 (by omega)) e1 dL_law_343 dL_law_344 dL_law_346 dL_law_347 dL_law_348 ?_
    refine argR C (n := 2) (v := 2) hS (lv_at hl 0 rfl) (lv_at hl 4 rfl) (by decide) (hin 2 (by omega)) e2 dL_law_349 dL_law_350 dL_law_352 dL_law_353 dL_law_354 ?_
    refine argR C (n := 3) (v := 3) hS (lv_at hl 0 rfl) (lv_at hl 4 rfl) (by decide) (hin 3 (by omega)) e3 dL_law_355 dL_law_356 dL_law_358 dL_law_359 dL_law_360 ?_
    refine lv_aload_n hx hb dL_law_361 rfl (lv_at hl 3 rfl) ?_
    refine lawH (σ' := σ') (f' := f) (As := [.ref (a 0), .int p1, .int p2, .int p3, .ref o]) (rest := []) C (xL_make_1 l C.2.2.2.2.2.1 D y a o t ts C.aI _ f σ σ' p1 p2 p3 h1) (vx_cwSW 5 hts (gAS aM_L_106 aT_L_make aN_L aC_L_make) rfl rfl rfl eL_make ⟨Nat.le_of_ble_eq_true rfl, Nat.le_of_ble_eq_true rfl⟩) rfl hl.1 rfl (Nat.le_of_ble_eq_true rfl) dL_law_362 ⟨by have := hc.1; omega, by have := hc.2; omega⟩ hPc hPm hS (fun H locs hPc hPm hS => ?_)
    refine lv_istore (lv' := [(5, .int 3), (0, .ref z), (1, .ref (a 0)), (2, .ref (b 0)), (3, .ref o), (4, .int x4)]) hx hb dL_law_365 hl (by decide) rfl (fun ls hl => ?_)
    refine lv_aload_n hx hb dL_law_367 rfl (lv_at hl 3 rfl) ?_
    refine argR C (n := 1) (v := 1) hS (lv_at hl 1 rfl) (lv_at hl 5 rfl) (by decide) (hin 1 (by omega)) e1 dL_law_368 dL_law_369 dL_law_371 dL_law_372 dL_law_373 ?_
    refine argR C (n := 2) (v := 2) hS (lv_at hl 1 rfl) (lv_at hl 5 rfl) (by decide) (hin 2 (by omega)) e2 dL_law_374 dL_law_375 dL_law_377 dL_law_378 dL_law_379 ?_
    refine argR C (n := 3) (v := 3) hS (lv_at hl 1 rfl) (lv_at hl 5 rfl) (by decide) (hin 3 (by omega)) e3 dL_law_380 dL_law_381 dL_law_383 dL_law_384 dL_law_385 ?_
    refine lawM_i (σ := σ') (τ' := τ') (As := [.int p1, .int p2, .int p3]) (rest := []) C (kX8_make l D y b t C.bI _ τ τ' p1 p2 p3 v h2) (cwV 3 hts (gAV aM_L_109 aI_X8_make aS_X8_make aN_X8 aC_X8_make) rfl rfl rfl eX8_make ⟨Nat.le_of_ble_eq_true rfl, Nat.le_of_ble_eq_true rfl⟩) rfl hl.1 rfl (Nat.le_of_ble_eq_true rfl) dL_law_386 ⟨by have := hc.1; omega, by have := hc.2; omega⟩ hPc hPm hS (fun H locs hPc hPm hS => ?_)
    refine lv_istore (lv' := [(6, .int v), (5, .int 3), (0, .ref z), (1, .ref (a 0)), (2, .ref (b 0)), (3, .ref o), (4, .int x4)]) hx hb dL_law_389 hl (by decide) rfl (fun ls hl => ?_)
    refine lv_aload_n hx hb dL_law_391 rfl (lv_at hl 4 rfl) ?_
    refine lawM_i (σ := σ') (τ := τ') (τ' := τ') (As := []) (rest := []) C (kX8_thrown l D y b t C.bI _ τ' (τ'.1 0 0) rfl) (cwV 0 hts (gAV aM_L_91 aI_X8_thrown aS_X8_thrown aN_X8 aC_X8_thrown) rfl rfl rfl eX8_thrown ⟨Nat.le_of_ble_eq_true rfl, Nat.le_of_ble_eq_true rfl⟩) rfl hl.1 rfl (Nat.le_of_ble_eq_true rfl) dL_law_392 ⟨by have := hc.1; omega, by have := hc.2; omega⟩ hPc hPm hS (fun H locs hPc hPm hS => ?_)
    refine lv_iload hx hb dL_law_395 (lv_at hl 1 rfl) ?_
    refine lv_icmp_eq (tgt := 402) hx hb dL_law_397 (by decide) (fun _ => ?_) (fun c1 => absurd h3 c1)
    refine lv_iload hx hb dL_law_402 (lv_at hl 1 rfl) ?_
    refine lv_if_ne (tgt := 419) hx hb dL_law_404 (by decide) (fun _ => ?_) (fun c1 => absurd c1 (by decide))
    refine lv_goto (tgt := 1557) hx hb dL_law_419 (by decide) ?_
    refine W.widen (k := cells + 200) (n := slots + 1600) (by omega) (by omega) ?_
    exact next σ' τ' (f) _ _ _ hR' hPc hPm hS (lv_sub hl [2, 3, 4, 5, 6] rfl)
set_option maxHeartbeats 4000000 in
set_option maxRecDepth 100000 in
theorem law_formula {p : Program} {l : Launch} {e : Env} {s : State} {m : MethodId} {below : List Frame} {meth : Method} {c : Code} {D : va_G} {y : Nat → ClassId} {a b t ts : Nat → Nat} {o z L : Nat} {xs : Nat → Int32} (C : LX p l s m meth c D y a b t ts o z L xs) {Q : State → Prop} {cells slots : Nat} (hc : cells + 200 ≤ 601024 ∧ slots + 1600 ≤ 7293033) {x4 : Int32} (hin : ∀ d : Nat, d < 6 → vp_in (x4 + nI d) L) {σ τ : St} {f : Nat → Int64} {H : Heap} {locs : List Loc} {ls : Array Slot} (hR : RR σ τ) (hPc : va_P D vwCl (wO y a o f σ) H) (hPm : va_P D vwCl (wM y b τ) H) (hS : va_S (fun q => s.heap.size ≤ q) s.heap H locs) (hl : lv_has ls 9 [(0, .ref z), (1, .ref (a 0)), (2, .ref (b 0)), (3, .ref o), (4, .int x4)])
    (next : ∀ (σ τ : St) (f : Nat → Int64) (H : Heap) (locs : List Loc) (ls : Array Slot), RR σ τ → va_P D vwCl (wO y a o f σ) H → va_P D vwCl (wM y b τ) H → va_S (fun q => s.heap.size ≤ q) s.heap H locs → lv_has ls 9 [(0, .ref z), (1, .ref (a 0)), (2, .ref (b 0)), (3, .ref o), (4, .int x4)] → W p l e room_1 s m #[Value.ref z] below meth c H locs (cells + 200) (slots + 1600) Q (F0 m 1557 ls [])) : W p l e room_1 s m #[Value.ref z] below meth c H locs cells slots Q (F0 m 422 ls []) := by
  have hx := C.1.1
  have hb := C.1.2.1
  have hown := C.1.2.2.2.1
  have hts := C.1.2.2.2.2.1
  obtain ⟨p1, e1⟩ : ∃ q, q = xs (x4 + 1).toNatClampNeg := ⟨_, rfl⟩
  obtain ⟨p2, e2⟩ : ∃ q, q = xs (x4 + 2).toNatClampNeg := ⟨_, rfl⟩
  rcases P_formula hR p1 p2 with ⟨r, τ', h1, h2, h3, hR'⟩ | ⟨v, τ', h1, h2, h3, hR'⟩
  · skip
    refine lv_aload_n hx hb dL_law_422 rfl (lv_at hl 1 rfl) ?_
    refine argR C (n := 1) (v := 1) hS (lv_at hl 0 rfl) (lv_at hl 4 rfl) (by decide) (hin 1 (by omega)) e1 dL_law_423 dL_law_424 dL_law_426 dL_law_427 dL_law_428 ?_
    refine argR C (n := 2) (v := 2) hS (lv_at hl 0 rfl) (lv_at hl 4 rfl) (by decide) (hin 2 (by omega)) e2 dL_law_429 dL_law_430 dL_law_432 dL_law_433 dL_law_434 ?_
    refine lv_aload_n hx hb dL_law_435 rfl (lv_at hl 3 rfl) ?_
    refine lawH (σ' := σ) (f' := vp_updL f 0 r.toInt64) (As := [.ref (a 0), .int p1, .int p2, .ref o]) (rest := []) C (kL_formula l D y a o t ts C.aI _ f σ p1 p2 r h1) (vx_cwSW 4 hts (gAS aM_L_110 aT_L_formula aN_L aC_L_formula) rfl rfl rfl eL_formula ⟨Nat.le_of_ble_eq_true rfl, Nat.le_of_ble_eq_true rfl⟩) rfl hl.1 rfl (Nat.le_of_ble_eq_true rfl) dL_law_436 ⟨by have := hc.1; omega, by have := hc.2; omega⟩ hPc hPm hS (fun H locs hPc hPm hS => ?_)
    refine lv_istore (lv' := [(5, .int 0), (0, .ref z), (1, .ref (a 0)), (2, .ref (b 0)), (3, .ref o), (4, .int x4)]) hx hb dL_law_439 hl (by decide) rfl (fun ls hl => ?_)
    refine lv_aload_n hx hb dL_law_441 rfl (lv_at hl 3 rfl) ?_
    refine argR C (n := 1) (v := 1) hS (lv_at hl 1 rfl) (lv_at hl 5 rfl) (by decide) (hin 1 (by omega)) e1 dL_law_442 dL_law_443 dL_law_445 dL_law_446 dL_law_447 ?_
    refine argR C (n := 2) (v := 2) hS (lv_at hl 1 rfl) (lv_at hl 5 rfl) (by decide) (hin 2 (by omega)) e2 dL_law_448 dL_law_449 dL_law_451 dL_law_452 dL_law_453 ?_
    refine lawM_i (σ := σ) (τ' := τ') (As := [.int p1, .int p2]) (rest := []) C (kX8_formula l D y b t C.bI _ τ τ' p1 p2 r h2) (cwV 2 hts (gAV aM_L_113 aI_X8_formula aS_X8_formula aN_X8 aC_X8_formula) rfl rfl rfl eX8_formula ⟨Nat.le_of_ble_eq_true rfl, Nat.le_of_ble_eq_true rfl⟩) rfl hl.1 rfl (Nat.le_of_ble_eq_true rfl) dL_law_454 ⟨by have := hc.1; omega, by have := hc.2; omega⟩ hPc hPm hS (fun H locs hPc hPm hS => ?_)
    refine lv_istore (lv' := [(6, .int r), (5, .int 0), (0, .ref z), (1, .ref (a 0)), (2, .ref (b 0)), (3, .ref o), (4, .int x4)]) hx hb dL_law_457 hl (by decide) rfl (fun ls hl => ?_)
    refine lv_aload_n hx hb dL_law_459 rfl (lv_at hl 4 rfl) ?_
    refine lawM_i (σ := σ) (τ := τ') (τ' := τ') (As := []) (rest := []) C (kX8_thrown l D y b t C.bI _ τ' (τ'.1 0 0) rfl) (cwV 0 hts (gAV aM_L_91 aI_X8_thrown aS_X8_thrown aN_X8 aC_X8_thrown) rfl rfl rfl eX8_thrown ⟨Nat.le_of_ble_eq_true rfl, Nat.le_of_ble_eq_true rfl⟩) rfl hl.1 rfl (Nat.le_of_ble_eq_true rfl) dL_law_460 ⟨by have := hc.1; omega, by have := hc.2; omega⟩ hPc hPm hS (fun H locs hPc hPm hS => ?_)
    refine lv_iload hx hb dL_law_463 (lv_at hl 1 rfl) ?_
    refine lv_icmp_eq (tgt := 470) hx hb dL_law_465 (by decide) (fun _ => ?_) (fun c1 => absurd h3 c1)
    refine lv_iload hx hb dL_law_470 (lv_at hl 1 rfl) ?_
    refine lv_if_ne (tgt := 487) hx hb dL_law_472 (by decide) (fun c1 => absurd rfl c1) (fun _ => ?_)
    refine lv_aload_n hx hb dL_law_475 rfl (lv_at hl 5 rfl) ?_
    refine lv_iconst (v := 0) hx hb dL_law_476 (by decide) ?_
    refine va_lald (i := 0) hx hb C.2.2.1 hPc 37 2 rfl rfl (by intro h; rcases h with h | h <;> revert h <;> decide) dL_law_477 ?_
    have e0 : vp_updL f 0 r.toInt64 (0 : Int32).toNatClampNeg = r.toInt64 := pk_uLs
    rw [e0]
    refine lv_iload hx hb dL_law_478 (lv_at hl 0 rfl) ?_
    refine lv_i2l (v := r.toInt64) hx hb dL_law_480 rfl ?_
    refine W.lcmp hx hb dL_law_481 ?_
    rw [lcmp_same]
    refine lv_if_eq (tgt := 487) hx hb dL_law_482 (by decide) (fun _ => ?_) (fun c1 => absurd rfl c1)
    refine lv_goto (tgt := 1557) hx hb dL_law_487 (by decide) ?_
    refine W.widen (k := cells + 200) (n := slots + 1600) (by omega) (by omega) ?_
    exact next σ τ' (vp_updL f 0 r.toInt64) _ _ _ hR' hPc hPm hS (lv_sub hl [2, 3, 4, 5, 6] rfl)
  · skip
    refine lv_aload_n hx hb dL_law_422 rfl (lv_at hl 1 rfl) ?_
    refine argR C (n := 1) (v := 1) hS (lv_at hl 0 rfl) (lv_at hl 4 rfl) (by decide) (hin 1 (by omega)) e1 dL_law_423 dL_law_424 dL_law_426 dL_law_427 dL_law_428 ?_
    refine argR C (n := 2) (v := 2) hS (lv_at hl 0 rfl) (lv_at hl 4 rfl) (by decide) (hin 2 (by omega)) e2 dL_law_429 dL_law_430 dL_law_432 dL_law_433 dL_law_434 ?_
    refine lv_aload_n hx hb dL_law_435 rfl (lv_at hl 3 rfl) ?_
    refine lawH (σ' := σ) (f' := f) (As := [.ref (a 0), .int p1, .int p2, .ref o]) (rest := []) C (xL_formula_3 l C.2.2.2.2.2.1 D y a o t ts C.aI _ f σ p1 p2 h1) (vx_cwSW 4 hts (gAS aM_L_110 aT_L_formula aN_L aC_L_formula) rfl rfl rfl eL_formula ⟨Nat.le_of_ble_eq_true rfl, Nat.le_of_ble_eq_true rfl⟩) rfl hl.1 rfl (Nat.le_of_ble_eq_true rfl) dL_law_436 ⟨by have := hc.1; omega, by have := hc.2; omega⟩ hPc hPm hS (fun H locs hPc hPm hS => ?_)
    refine lv_istore (lv' := [(5, .int 1), (0, .ref z), (1, .ref (a 0)), (2, .ref (b 0)), (3, .ref o), (4, .int x4)]) hx hb dL_law_439 hl (by decide) rfl (fun ls hl => ?_)
    refine lv_aload_n hx hb dL_law_441 rfl (lv_at hl 3 rfl) ?_
    refine argR C (n := 1) (v := 1) hS (lv_at hl 1 rfl) (lv_at hl 5 rfl) (by decide) (hin 1 (by omega)) e1 dL_law_442 dL_law_443 dL_law_445 dL_law_446 dL_law_447 ?_
    refine argR C (n := 2) (v := 2) hS (lv_at hl 1 rfl) (lv_at hl 5 rfl) (by decide) (hin 2 (by omega)) e2 dL_law_448 dL_law_449 dL_law_451 dL_law_452 dL_law_453 ?_
    refine lawM_i (σ := σ) (τ' := τ') (As := [.int p1, .int p2]) (rest := []) C (kX8_formula l D y b t C.bI _ τ τ' p1 p2 v h2) (cwV 2 hts (gAV aM_L_113 aI_X8_formula aS_X8_formula aN_X8 aC_X8_formula) rfl rfl rfl eX8_formula ⟨Nat.le_of_ble_eq_true rfl, Nat.le_of_ble_eq_true rfl⟩) rfl hl.1 rfl (Nat.le_of_ble_eq_true rfl) dL_law_454 ⟨by have := hc.1; omega, by have := hc.2; omega⟩ hPc hPm hS (fun H locs hPc hPm hS => ?_)
    refine lv_istore (lv' := [(6, .int v), (5, .int 1), (0, .ref z), (1, .ref (a 0)), (2, .ref (b 0)), (3, .ref o), (4, .int x4)]) hx hb dL_law_457 hl (by decide) rfl (fun ls hl => ?_)
    refine lv_aload_n hx hb dL_law_459 rfl (lv_at hl 4 rfl) ?_
    refine lawM_i (σ := σ) (τ := τ') (τ' := τ') (As := []) (rest := []) C (kX8_thrown l D y b t C.bI _ τ' (τ'.1 0 0) rfl) (cwV 0 hts (gAV aM_L_91 aI_X8_thrown aS_X8_thrown aN_X8 aC_X8_thrown) rfl rfl rfl eX8_thrown ⟨Nat.le_of_ble_eq_true rfl, Nat.le_of_ble_eq_true rfl⟩) rfl hl.1 rfl (Nat.le_of_ble_eq_true rfl) dL_law_460 ⟨by have := hc.1; omega, by have := hc.2; omega⟩ hPc hPm hS (fun H locs hPc hPm hS => ?_)
    refine lv_iload hx hb dL_law_463 (lv_at hl 1 rfl) ?_
    refine lv_icmp_eq (tgt := 470) hx hb dL_law_465 (by decide) (fun _ => ?_) (fun c1 => absurd h3 c1)
    refine lv_iload hx hb dL_law_470 (lv_at hl 1 rfl) ?_
    refine lv_if_ne (tgt := 487) hx hb dL_law_472 (by decide) (fun _ => ?_) (fun c1 => absurd c1 (by decide))
    refine lv_goto (tgt := 1557) hx hb dL_law_487 (by decide) ?_
    refine W.widen (k := cells + 200) (n := slots + 1600) (by omega) (by omega) ?_
    exact next σ τ' (f) _ _ _ hR' hPc hPm hS (lv_sub hl [2, 3, 4, 5, 6] rfl)
set_option maxHeartbeats 4000000 in
set_option maxRecDepth 100000 in
theorem law_isTrue {p : Program} {l : Launch} {e : Env} {s : State} {m : MethodId} {below : List Frame} {meth : Method} {c : Code} {D : va_G} {y : Nat → ClassId} {a b t ts : Nat → Nat} {o z L : Nat} {xs : Nat → Int32} (C : LX p l s m meth c D y a b t ts o z L xs) {Q : State → Prop} {cells slots : Nat} (hc : cells + 200 ≤ 601024 ∧ slots + 1600 ≤ 7293033) {x4 : Int32} (hin : ∀ d : Nat, d < 6 → vp_in (x4 + nI d) L) {σ τ : St} {f : Nat → Int64} {H : Heap} {locs : List Loc} {ls : Array Slot} (hR : RR σ τ) (hPc : va_P D vwCl (wO y a o f σ) H) (hPm : va_P D vwCl (wM y b τ) H) (hS : va_S (fun q => s.heap.size ≤ q) s.heap H locs) (hl : lv_has ls 9 [(0, .ref z), (1, .ref (a 0)), (2, .ref (b 0)), (3, .ref o), (4, .int x4)])
    (next : ∀ (σ τ : St) (f : Nat → Int64) (H : Heap) (locs : List Loc) (ls : Array Slot), RR σ τ → va_P D vwCl (wO y a o f σ) H → va_P D vwCl (wM y b τ) H → va_S (fun q => s.heap.size ≤ q) s.heap H locs → lv_has ls 9 [(0, .ref z), (1, .ref (a 0)), (2, .ref (b 0)), (3, .ref o), (4, .int x4)] → W p l e room_1 s m #[Value.ref z] below meth c H locs (cells + 200) (slots + 1600) Q (F0 m 1557 ls [])) : W p l e room_1 s m #[Value.ref z] below meth c H locs cells slots Q (F0 m 490 ls []) := by
  have hx := C.1.1
  have hb := C.1.2.1
  have hown := C.1.2.2.2.1
  have hts := C.1.2.2.2.2.1
  obtain ⟨p1, e1⟩ : ∃ q, q = xs (x4 + 1).toNatClampNeg := ⟨_, rfl⟩
  obtain ⟨p2, e2⟩ : ∃ q, q = xs (x4 + 2).toNatClampNeg := ⟨_, rfl⟩
  rcases P_isTrue hR p1 p2 with ⟨r, τ', h1, h2, h3, hR'⟩ | ⟨v, τ', h1, h2, h3, hR'⟩ | ⟨v, τ', h1, h2, h3, hR'⟩
  · skip
    refine lv_aload_n hx hb dL_law_490 rfl (lv_at hl 1 rfl) ?_
    refine argR C (n := 1) (v := 1) hS (lv_at hl 0 rfl) (lv_at hl 4 rfl) (by decide) (hin 1 (by omega)) e1 dL_law_491 dL_law_492 dL_law_494 dL_law_495 dL_law_496 ?_
    refine argR C (n := 2) (v := 2) hS (lv_at hl 0 rfl) (lv_at hl 4 rfl) (by decide) (hin 2 (by omega)) e2 dL_law_497 dL_law_498 dL_law_500 dL_law_501 dL_law_502 ?_
    refine lv_aload_n hx hb dL_law_503 rfl (lv_at hl 3 rfl) ?_
    refine lawH (σ' := σ) (f' := vp_updL f 0 (if r = 0 then (0 : Int64) else 1)) (As := [.ref (a 0), .int p1, .int p2, .ref o]) (rest := []) C (kL_isTrue l D y a o t ts C.aI _ f σ p1 p2 r h1) (vx_cwSW 4 hts (gAS aM_L_114 aT_L_isTrue aN_L aC_L_isTrue) rfl rfl rfl eL_isTrue ⟨Nat.le_of_ble_eq_true rfl, Nat.le_of_ble_eq_true rfl⟩) rfl hl.1 rfl (Nat.le_of_ble_eq_true rfl) dL_law_504 ⟨by have := hc.1; omega, by have := hc.2; omega⟩ hPc hPm hS (fun H locs hPc hPm hS => ?_)
    refine lv_istore (lv' := [(5, .int 0), (0, .ref z), (1, .ref (a 0)), (2, .ref (b 0)), (3, .ref o), (4, .int x4)]) hx hb dL_law_507 hl (by decide) rfl (fun ls hl => ?_)
    refine lv_aload_n hx hb dL_law_509 rfl (lv_at hl 3 rfl) ?_
    refine argR C (n := 1) (v := 1) hS (lv_at hl 1 rfl) (lv_at hl 5 rfl) (by decide) (hin 1 (by omega)) e1 dL_law_510 dL_law_511 dL_law_513 dL_law_514 dL_law_515 ?_
    refine argR C (n := 2) (v := 2) hS (lv_at hl 1 rfl) (lv_at hl 5 rfl) (by decide) (hin 2 (by omega)) e2 dL_law_516 dL_law_517 dL_law_519 dL_law_520 dL_law_521 ?_
    refine lawM_i (σ := σ) (τ' := τ') (As := [.int p1, .int p2]) (rest := []) C (kX8_isTrue l D y b t C.bI _ τ τ' p1 p2 r h2) (cwV 2 hts (gAV aM_L_116 aI_X8_isTrue aS_X8_isTrue aN_X8 aC_X8_isTrue) rfl rfl rfl eX8_isTrue ⟨Nat.le_of_ble_eq_true rfl, Nat.le_of_ble_eq_true rfl⟩) rfl hl.1 rfl (Nat.le_of_ble_eq_true rfl) dL_law_522 ⟨by have := hc.1; omega, by have := hc.2; omega⟩ hPc hPm hS (fun H locs hPc hPm hS => ?_)
    refine lv_istore (lv' := [(6, .int r), (5, .int 0), (0, .ref z), (1, .ref (a 0)), (2, .ref (b 0)), (3, .ref o), (4, .int x4)]) hx hb dL_law_525 hl (by decide) rfl (fun ls hl => ?_)
    refine lv_aload_n hx hb dL_law_527 rfl (lv_at hl 4 rfl) ?_
    refine lawM_i (σ := σ) (τ := τ') (τ' := τ') (As := []) (rest := []) C (kX8_thrown l D y b t C.bI _ τ' (τ'.1 0 0) rfl) (cwV 0 hts (gAV aM_L_91 aI_X8_thrown aS_X8_thrown aN_X8 aC_X8_thrown) rfl rfl rfl eX8_thrown ⟨Nat.le_of_ble_eq_true rfl, Nat.le_of_ble_eq_true rfl⟩) rfl hl.1 rfl (Nat.le_of_ble_eq_true rfl) dL_law_528 ⟨by have := hc.1; omega, by have := hc.2; omega⟩ hPc hPm hS (fun H locs hPc hPm hS => ?_)
    refine lv_iload hx hb dL_law_531 (lv_at hl 1 rfl) ?_
    refine lv_icmp_eq (tgt := 538) hx hb dL_law_533 (by decide) (fun _ => ?_) (fun c1 => absurd h3 c1)
    refine lv_iload hx hb dL_law_538 (lv_at hl 1 rfl) ?_
    refine lv_if_ne (tgt := 562) hx hb dL_law_540 (by decide) (fun c1 => absurd rfl c1) (fun _ => ?_)
    refine lv_aload_n hx hb dL_law_543 rfl (lv_at hl 5 rfl) ?_
    refine lv_iconst (v := 0) hx hb dL_law_544 (by decide) ?_
    refine va_lald (i := 0) hx hb C.2.2.1 hPc 37 2 rfl rfl (by intro h; rcases h with h | h <;> revert h <;> decide) dL_law_545 ?_
    have e0 : vp_updL f 0 (if r = 0 then (0 : Int64) else 1) (0 : Int32).toNatClampNeg = (if r = 0 then (0 : Int64) else 1) := pk_uLs
    rw [e0]
    refine lv_iload hx hb dL_law_546 (lv_at hl 0 rfl) ?_
    refine lv_if_eq (tgt := 555) hx hb dL_law_548 (by decide) (fun c2 => ?_) (fun c2 => ?_)
    · have e1 : (if r = 0 then (0 : Int64) else 1) = 0 := if_pos c2
      refine lv_lconst (v := 0) hx hb dL_law_555 (by decide) ?_
      refine W.lcmp hx hb dL_law_556 ?_
      rw [e1, lcmp_same]
      refine lv_if_eq (tgt := 562) hx hb dL_law_557 (by decide) (fun _ => ?_) (fun c1 => absurd rfl c1)
      refine lv_goto (tgt := 1557) hx hb dL_law_562 (by decide) ?_
      refine W.widen (k := cells + 200) (n := slots + 1600) (by omega) (by omega) ?_
      exact next σ τ' (vp_updL f 0 (if r = 0 then (0 : Int64) else 1)) _ _ _ hR' hPc hPm hS (lv_sub hl [2, 3, 4, 5, 6] rfl)
    · have e1 : (if r = 0 then (0 : Int64) else 1) = 1 := if_neg c2
      refine lv_lconst (v := 1) hx hb dL_law_551 (by decide) ?_
      refine lv_goto (tgt := 556) hx hb dL_law_552 (by decide) ?_
      refine W.lcmp hx hb dL_law_556 ?_
      rw [e1, lcmp_same]
      refine lv_if_eq (tgt := 562) hx hb dL_law_557 (by decide) (fun _ => ?_) (fun c1 => absurd rfl c1)
      refine lv_goto (tgt := 1557) hx hb dL_law_562 (by decide) ?_
      refine W.widen (k := cells + 200) (n := slots + 1600) (by omega) (by omega) ?_
      exact next σ τ' (vp_updL f 0 (if r = 0 then (0 : Int64) else 1)) _ _ _ hR' hPc hPm hS (lv_sub hl [2, 3, 4, 5, 6] rfl)
  · skip
    refine lv_aload_n hx hb dL_law_490 rfl (lv_at hl 1 rfl) ?_
    refine argR C (n := 1) (v := 1) hS (lv_at hl 0 rfl) (lv_at hl 4 rfl) (by decide) (hin 1 (by omega)) e1 dL_law_491 dL_law_492 dL_law_494 dL_law_495 dL_law_496 ?_
    refine argR C (n := 2) (v := 2) hS (lv_at hl 0 rfl) (lv_at hl 4 rfl) (by decide) (hin 2 (by omega)) e2 dL_law_497 dL_law_498 dL_law_500 dL_law_501 dL_law_502 ?_
    refine lv_aload_n hx hb dL_law_503 rfl (lv_at hl 3 rfl) ?_
    refine lawH (σ' := σ) (f' := f) (As := [.ref (a 0), .int p1, .int p2, .ref o]) (rest := []) C (xL_isTrue_3 l C.2.2.2.2.2.1 D y a o t ts C.aI _ f σ p1 p2 h1) (vx_cwSW 4 hts (gAS aM_L_114 aT_L_isTrue aN_L aC_L_isTrue) rfl rfl rfl eL_isTrue ⟨Nat.le_of_ble_eq_true rfl, Nat.le_of_ble_eq_true rfl⟩) rfl hl.1 rfl (Nat.le_of_ble_eq_true rfl) dL_law_504 ⟨by have := hc.1; omega, by have := hc.2; omega⟩ hPc hPm hS (fun H locs hPc hPm hS => ?_)
    refine lv_istore (lv' := [(5, .int 1), (0, .ref z), (1, .ref (a 0)), (2, .ref (b 0)), (3, .ref o), (4, .int x4)]) hx hb dL_law_507 hl (by decide) rfl (fun ls hl => ?_)
    refine lv_aload_n hx hb dL_law_509 rfl (lv_at hl 3 rfl) ?_
    refine argR C (n := 1) (v := 1) hS (lv_at hl 1 rfl) (lv_at hl 5 rfl) (by decide) (hin 1 (by omega)) e1 dL_law_510 dL_law_511 dL_law_513 dL_law_514 dL_law_515 ?_
    refine argR C (n := 2) (v := 2) hS (lv_at hl 1 rfl) (lv_at hl 5 rfl) (by decide) (hin 2 (by omega)) e2 dL_law_516 dL_law_517 dL_law_519 dL_law_520 dL_law_521 ?_
    refine lawM_i (σ := σ) (τ' := τ') (As := [.int p1, .int p2]) (rest := []) C (kX8_isTrue l D y b t C.bI _ τ τ' p1 p2 v h2) (cwV 2 hts (gAV aM_L_116 aI_X8_isTrue aS_X8_isTrue aN_X8 aC_X8_isTrue) rfl rfl rfl eX8_isTrue ⟨Nat.le_of_ble_eq_true rfl, Nat.le_of_ble_eq_true rfl⟩) rfl hl.1 rfl (Nat.le_of_ble_eq_true rfl) dL_law_522 ⟨by have := hc.1; omega, by have := hc.2; omega⟩ hPc hPm hS (fun H locs hPc hPm hS => ?_)
    refine lv_istore (lv' := [(6, .int v), (5, .int 1), (0, .ref z), (1, .ref (a 0)), (2, .ref (b 0)), (3, .ref o), (4, .int x4)]) hx hb dL_law_525 hl (by decide) rfl (fun ls hl => ?_)
    refine lv_aload_n hx hb dL_law_527 rfl (lv_at hl 4 rfl) ?_
    refine lawM_i (σ := σ) (τ := τ') (τ' := τ') (As := []) (rest := []) C (kX8_thrown l D y b t C.bI _ τ' (τ'.1 0 0) rfl) (cwV 0 hts (gAV aM_L_91 aI_X8_thrown aS_X8_thrown aN_X8 aC_X8_thrown) rfl rfl rfl eX8_thrown ⟨Nat.le_of_ble_eq_true rfl, Nat.le_of_ble_eq_true rfl⟩) rfl hl.1 rfl (Nat.le_of_ble_eq_true rfl) dL_law_528 ⟨by have := hc.1; omega, by have := hc.2; omega⟩ hPc hPm hS (fun H locs hPc hPm hS => ?_)
    refine lv_iload hx hb dL_law_531 (lv_at hl 1 rfl) ?_
    refine lv_icmp_eq (tgt := 538) hx hb dL_law_533 (by decide) (fun _ => ?_) (fun c1 => absurd h3 c1)
    refine lv_iload hx hb dL_law_538 (lv_at hl 1 rfl) ?_
    refine lv_if_ne (tgt := 562) hx hb dL_law_540 (by decide) (fun _ => ?_) (fun c1 => absurd c1 (by decide))
    refine lv_goto (tgt := 1557) hx hb dL_law_562 (by decide) ?_
    refine W.widen (k := cells + 200) (n := slots + 1600) (by omega) (by omega) ?_
    exact next σ τ' (f) _ _ _ hR' hPc hPm hS (lv_sub hl [2, 3, 4, 5, 6] rfl)
  · skip
    refine lv_aload_n hx hb dL_law_490 rfl (lv_at hl 1 rfl) ?_
    refine argR C (n := 1) (v := 1) hS (lv_at hl 0 rfl) (lv_at hl 4 rfl) (by decide) (hin 1 (by omega)) e1 dL_law_491 dL_law_492 dL_law_494 dL_law_495 dL_law_496 ?_
    refine argR C (n := 2) (v := 2) hS (lv_at hl 0 rfl) (lv_at hl 4 rfl) (by decide) (hin 2 (by omega)) e2 dL_law_497 dL_law_498 dL_law_500 dL_law_501 dL_law_502 ?_
    refine lv_aload_n hx hb dL_law_503 rfl (lv_at hl 3 rfl) ?_
    refine lawH (σ' := σ) (f' := f) (As := [.ref (a 0), .int p1, .int p2, .ref o]) (rest := []) C (xL_isTrue_2 l C.2.2.2.2.2.1 D y a o t ts C.aI _ f σ p1 p2 h1) (vx_cwSW 4 hts (gAS aM_L_114 aT_L_isTrue aN_L aC_L_isTrue) rfl rfl rfl eL_isTrue ⟨Nat.le_of_ble_eq_true rfl, Nat.le_of_ble_eq_true rfl⟩) rfl hl.1 rfl (Nat.le_of_ble_eq_true rfl) dL_law_504 ⟨by have := hc.1; omega, by have := hc.2; omega⟩ hPc hPm hS (fun H locs hPc hPm hS => ?_)
    refine lv_istore (lv' := [(5, .int 2), (0, .ref z), (1, .ref (a 0)), (2, .ref (b 0)), (3, .ref o), (4, .int x4)]) hx hb dL_law_507 hl (by decide) rfl (fun ls hl => ?_)
    refine lv_aload_n hx hb dL_law_509 rfl (lv_at hl 3 rfl) ?_
    refine argR C (n := 1) (v := 1) hS (lv_at hl 1 rfl) (lv_at hl 5 rfl) (by decide) (hin 1 (by omega)) e1 dL_law_510 dL_law_511 dL_law_513 dL_law_514 dL_law_515 ?_
    refine argR C (n := 2) (v := 2) hS (lv_at hl 1 rfl) (lv_at hl 5 rfl) (by decide) (hin 2 (by omega)) e2 dL_law_516 dL_law_517 dL_law_519 dL_law_520 dL_law_521 ?_
    refine lawM_i (σ := σ) (τ' := τ') (As := [.int p1, .int p2]) (rest := []) C (kX8_isTrue l D y b t C.bI _ τ τ' p1 p2 v h2) (cwV 2 hts (gAV aM_L_116 aI_X8_isTrue aS_X8_isTrue aN_X8 aC_X8_isTrue) rfl rfl rfl eX8_isTrue ⟨Nat.le_of_ble_eq_true rfl, Nat.le_of_ble_eq_true rfl⟩) rfl hl.1 rfl (Nat.le_of_ble_eq_true rfl) dL_law_522 ⟨by have := hc.1; omega, by have := hc.2; omega⟩ hPc hPm hS (fun H locs hPc hPm hS => ?_)
    refine lv_istore (lv' := [(6, .int v), (5, .int 2), (0, .ref z), (1, .ref (a 0)), (2, .ref (b 0)), (3, .ref o), (4, .int x4)]) hx hb dL_law_525 hl (by decide) rfl (fun ls hl => ?_)
    refine lv_aload_n hx hb dL_law_527 rfl (lv_at hl 4 rfl) ?_
    refine lawM_i (σ := σ) (τ := τ') (τ' := τ') (As := []) (rest := []) C (kX8_thrown l D y b t C.bI _ τ' (τ'.1 0 0) rfl) (cwV 0 hts (gAV aM_L_91 aI_X8_thrown aS_X8_thrown aN_X8 aC_X8_thrown) rfl rfl rfl eX8_thrown ⟨Nat.le_of_ble_eq_true rfl, Nat.le_of_ble_eq_true rfl⟩) rfl hl.1 rfl (Nat.le_of_ble_eq_true rfl) dL_law_528 ⟨by have := hc.1; omega, by have := hc.2; omega⟩ hPc hPm hS (fun H locs hPc hPm hS => ?_)
    refine lv_iload hx hb dL_law_531 (lv_at hl 1 rfl) ?_
    refine lv_icmp_eq (tgt := 538) hx hb dL_law_533 (by decide) (fun _ => ?_) (fun c1 => absurd h3 c1)
    refine lv_iload hx hb dL_law_538 (lv_at hl 1 rfl) ?_
    refine lv_if_ne (tgt := 562) hx hb dL_law_540 (by decide) (fun _ => ?_) (fun c1 => absurd c1 (by decide))
    refine lv_goto (tgt := 1557) hx hb dL_law_562 (by decide) ?_
    refine W.widen (k := cells + 200) (n := slots + 1600) (by omega) (by omega) ?_
    exact next σ τ' (f) _ _ _ hR' hPc hPm hS (lv_sub hl [2, 3, 4, 5, 6] rfl)
set_option maxHeartbeats 4000000 in
set_option maxRecDepth 100000 in
theorem law_write {p : Program} {l : Launch} {e : Env} {s : State} {m : MethodId} {below : List Frame} {meth : Method} {c : Code} {D : va_G} {y : Nat → ClassId} {a b t ts : Nat → Nat} {o z L : Nat} {xs : Nat → Int32} (C : LX p l s m meth c D y a b t ts o z L xs) {Q : State → Prop} {cells slots : Nat} (hc : cells + 200 ≤ 601024 ∧ slots + 1600 ≤ 7293033) {x4 : Int32} (hin : ∀ d : Nat, d < 6 → vp_in (x4 + nI d) L) {σ τ : St} {f : Nat → Int64} {H : Heap} {locs : List Loc} {ls : Array Slot} (hR : RR σ τ) (hPc : va_P D vwCl (wO y a o f σ) H) (hPm : va_P D vwCl (wM y b τ) H) (hS : va_S (fun q => s.heap.size ≤ q) s.heap H locs) (hl : lv_has ls 9 [(0, .ref z), (1, .ref (a 0)), (2, .ref (b 0)), (3, .ref o), (4, .int x4)])
    (next : ∀ (σ τ : St) (f : Nat → Int64) (H : Heap) (locs : List Loc) (ls : Array Slot), RR σ τ → va_P D vwCl (wO y a o f σ) H → va_P D vwCl (wM y b τ) H → va_S (fun q => s.heap.size ≤ q) s.heap H locs → lv_has ls 9 [(0, .ref z), (1, .ref (a 0)), (2, .ref (b 0)), (3, .ref o), (4, .int x4)] → W p l e room_1 s m #[Value.ref z] below meth c H locs (cells + 200) (slots + 1600) Q (F0 m 1557 ls [])) : W p l e room_1 s m #[Value.ref z] below meth c H locs cells slots Q (F0 m 565 ls []) := by
  have hx := C.1.1
  have hb := C.1.2.1
  have hown := C.1.2.2.2.1
  have hts := C.1.2.2.2.2.1
  obtain ⟨p1, e1⟩ : ∃ q, q = xs (x4 + 1).toNatClampNeg := ⟨_, rfl⟩
  rcases P_write hR p1 with ⟨r, σ', τ', h1, h2, h3, hR'⟩ | ⟨v, σ', τ', h1, h2, h3, hR'⟩ | ⟨v, σ', τ', h1, h2, h3, hR'⟩
  · skip
    refine lv_aload_n hx hb dL_law_565 rfl (lv_at hl 1 rfl) ?_
    refine argR C (n := 1) (v := 1) hS (lv_at hl 0 rfl) (lv_at hl 4 rfl) (by decide) (hin 1 (by omega)) e1 dL_law_566 dL_law_567 dL_law_569 dL_law_570 dL_law_571 ?_
    refine lv_aload_n hx hb dL_law_572 rfl (lv_at hl 3 rfl) ?_
    refine lawH (σ' := σ') (f' := vp_updL f 0 r.toInt64) (As := [.ref (a 0), .int p1, .ref o]) (rest := []) C (kL_write l D y a o t ts C.aI _ f σ σ' p1 r h1) (vx_cwSW 3 hts (gAS aM_L_117 aT_L_write aN_L aC_L_write) rfl rfl rfl eL_write ⟨Nat.le_of_ble_eq_true rfl, Nat.le_of_ble_eq_true rfl⟩) rfl hl.1 rfl (Nat.le_of_ble_eq_true rfl) dL_law_573 ⟨by have := hc.1; omega, by have := hc.2; omega⟩ hPc hPm hS (fun H locs hPc hPm hS => ?_)
    refine lv_istore (lv' := [(5, .int 0), (0, .ref z), (1, .ref (a 0)), (2, .ref (b 0)), (3, .ref o), (4, .int x4)]) hx hb dL_law_576 hl (by decide) rfl (fun ls hl => ?_)
    refine lv_aload_n hx hb dL_law_578 rfl (lv_at hl 3 rfl) ?_
    refine argR C (n := 1) (v := 1) hS (lv_at hl 1 rfl) (lv_at hl 5 rfl) (by decide) (hin 1 (by omega)) e1 dL_law_579 dL_law_580 dL_law_582 dL_law_583 dL_law_584 ?_
    refine lawM_i (σ := σ') (τ' := τ') (As := [.int p1]) (rest := []) C (kX8_write l D y b t C.bI _ τ τ' p1 r h2) (cwV 1 hts (gAV aM_L_119 aI_X8_write aS_X8_write aN_X8 aC_X8_write) rfl rfl rfl eX8_write ⟨Nat.le_of_ble_eq_true rfl, Nat.le_of_ble_eq_true rfl⟩) rfl hl.1 rfl (Nat.le_of_ble_eq_true rfl) dL_law_585 ⟨by have := hc.1; omega, by have := hc.2; omega⟩ hPc hPm hS (fun H locs hPc hPm hS => ?_)
    refine lv_istore (lv' := [(6, .int r), (5, .int 0), (0, .ref z), (1, .ref (a 0)), (2, .ref (b 0)), (3, .ref o), (4, .int x4)]) hx hb dL_law_588 hl (by decide) rfl (fun ls hl => ?_)
    refine lv_aload_n hx hb dL_law_590 rfl (lv_at hl 4 rfl) ?_
    refine lawM_i (σ := σ') (τ := τ') (τ' := τ') (As := []) (rest := []) C (kX8_thrown l D y b t C.bI _ τ' (τ'.1 0 0) rfl) (cwV 0 hts (gAV aM_L_91 aI_X8_thrown aS_X8_thrown aN_X8 aC_X8_thrown) rfl rfl rfl eX8_thrown ⟨Nat.le_of_ble_eq_true rfl, Nat.le_of_ble_eq_true rfl⟩) rfl hl.1 rfl (Nat.le_of_ble_eq_true rfl) dL_law_591 ⟨by have := hc.1; omega, by have := hc.2; omega⟩ hPc hPm hS (fun H locs hPc hPm hS => ?_)
    refine lv_iload hx hb dL_law_594 (lv_at hl 1 rfl) ?_
    refine lv_icmp_eq (tgt := 601) hx hb dL_law_596 (by decide) (fun _ => ?_) (fun c1 => absurd h3 c1)
    refine lv_iload hx hb dL_law_601 (lv_at hl 1 rfl) ?_
    refine lv_if_ne (tgt := 618) hx hb dL_law_603 (by decide) (fun c1 => absurd rfl c1) (fun _ => ?_)
    refine lv_aload_n hx hb dL_law_606 rfl (lv_at hl 5 rfl) ?_
    refine lv_iconst (v := 0) hx hb dL_law_607 (by decide) ?_
    refine va_lald (i := 0) hx hb C.2.2.1 hPc 37 2 rfl rfl (by intro h; rcases h with h | h <;> revert h <;> decide) dL_law_608 ?_
    have e0 : vp_updL f 0 r.toInt64 (0 : Int32).toNatClampNeg = r.toInt64 := pk_uLs
    rw [e0]
    refine lv_iload hx hb dL_law_609 (lv_at hl 0 rfl) ?_
    refine lv_i2l (v := r.toInt64) hx hb dL_law_611 rfl ?_
    refine W.lcmp hx hb dL_law_612 ?_
    rw [lcmp_same]
    refine lv_if_eq (tgt := 618) hx hb dL_law_613 (by decide) (fun _ => ?_) (fun c1 => absurd rfl c1)
    refine lv_goto (tgt := 1557) hx hb dL_law_618 (by decide) ?_
    refine W.widen (k := cells + 200) (n := slots + 1600) (by omega) (by omega) ?_
    exact next σ' τ' (vp_updL f 0 r.toInt64) _ _ _ hR' hPc hPm hS (lv_sub hl [2, 3, 4, 5, 6] rfl)
  · skip
    refine lv_aload_n hx hb dL_law_565 rfl (lv_at hl 1 rfl) ?_
    refine argR C (n := 1) (v := 1) hS (lv_at hl 0 rfl) (lv_at hl 4 rfl) (by decide) (hin 1 (by omega)) e1 dL_law_566 dL_law_567 dL_law_569 dL_law_570 dL_law_571 ?_
    refine lv_aload_n hx hb dL_law_572 rfl (lv_at hl 3 rfl) ?_
    refine lawH (σ' := σ') (f' := f) (As := [.ref (a 0), .int p1, .ref o]) (rest := []) C (xL_write_3 l C.2.2.2.2.2.1 D y a o t ts C.aI _ f σ σ' p1 h1) (vx_cwSW 3 hts (gAS aM_L_117 aT_L_write aN_L aC_L_write) rfl rfl rfl eL_write ⟨Nat.le_of_ble_eq_true rfl, Nat.le_of_ble_eq_true rfl⟩) rfl hl.1 rfl (Nat.le_of_ble_eq_true rfl) dL_law_573 ⟨by have := hc.1; omega, by have := hc.2; omega⟩ hPc hPm hS (fun H locs hPc hPm hS => ?_)
    refine lv_istore (lv' := [(5, .int 1), (0, .ref z), (1, .ref (a 0)), (2, .ref (b 0)), (3, .ref o), (4, .int x4)]) hx hb dL_law_576 hl (by decide) rfl (fun ls hl => ?_)
    refine lv_aload_n hx hb dL_law_578 rfl (lv_at hl 3 rfl) ?_
    refine argR C (n := 1) (v := 1) hS (lv_at hl 1 rfl) (lv_at hl 5 rfl) (by decide) (hin 1 (by omega)) e1 dL_law_579 dL_law_580 dL_law_582 dL_law_583 dL_law_584 ?_
    refine lawM_i (σ := σ') (τ' := τ') (As := [.int p1]) (rest := []) C (kX8_write l D y b t C.bI _ τ τ' p1 v h2) (cwV 1 hts (gAV aM_L_119 aI_X8_write aS_X8_write aN_X8 aC_X8_write) rfl rfl rfl eX8_write ⟨Nat.le_of_ble_eq_true rfl, Nat.le_of_ble_eq_true rfl⟩) rfl hl.1 rfl (Nat.le_of_ble_eq_true rfl) dL_law_585 ⟨by have := hc.1; omega, by have := hc.2; omega⟩ hPc hPm hS (fun H locs hPc hPm hS => ?_)
    refine lv_istore (lv' := [(6, .int v), (5, .int 1), (0, .ref z), (1, .ref (a 0)), (2, .ref (b 0)), (3, .ref o), (4, .int x4)]) hx hb dL_law_588 hl (by decide) rfl (fun ls hl => ?_)
    refine lv_aload_n hx hb dL_law_590 rfl (lv_at hl 4 rfl) ?_
    refine lawM_i (σ := σ') (τ := τ') (τ' := τ') (As := []) (rest := []) C (kX8_thrown l D y b t C.bI _ τ' (τ'.1 0 0) rfl) (cwV 0 hts (gAV aM_L_91 aI_X8_thrown aS_X8_thrown aN_X8 aC_X8_thrown) rfl rfl rfl eX8_thrown ⟨Nat.le_of_ble_eq_true rfl, Nat.le_of_ble_eq_true rfl⟩) rfl hl.1 rfl (Nat.le_of_ble_eq_true rfl) dL_law_591 ⟨by have := hc.1; omega, by have := hc.2; omega⟩ hPc hPm hS (fun H locs hPc hPm hS => ?_)
    refine lv_iload hx hb dL_law_594 (lv_at hl 1 rfl) ?_
    refine lv_icmp_eq (tgt := 601) hx hb dL_law_596 (by decide) (fun _ => ?_) (fun c1 => absurd h3 c1)
    refine lv_iload hx hb dL_law_601 (lv_at hl 1 rfl) ?_
    refine lv_if_ne (tgt := 618) hx hb dL_law_603 (by decide) (fun _ => ?_) (fun c1 => absurd c1 (by decide))
    refine lv_goto (tgt := 1557) hx hb dL_law_618 (by decide) ?_
    refine W.widen (k := cells + 200) (n := slots + 1600) (by omega) (by omega) ?_
    exact next σ' τ' (f) _ _ _ hR' hPc hPm hS (lv_sub hl [2, 3, 4, 5, 6] rfl)
  · skip
    refine lv_aload_n hx hb dL_law_565 rfl (lv_at hl 1 rfl) ?_
    refine argR C (n := 1) (v := 1) hS (lv_at hl 0 rfl) (lv_at hl 4 rfl) (by decide) (hin 1 (by omega)) e1 dL_law_566 dL_law_567 dL_law_569 dL_law_570 dL_law_571 ?_
    refine lv_aload_n hx hb dL_law_572 rfl (lv_at hl 3 rfl) ?_
    refine lawH (σ' := σ') (f' := f) (As := [.ref (a 0), .int p1, .ref o]) (rest := []) C (xL_write_1 l C.2.2.2.2.2.1 D y a o t ts C.aI _ f σ σ' p1 h1) (vx_cwSW 3 hts (gAS aM_L_117 aT_L_write aN_L aC_L_write) rfl rfl rfl eL_write ⟨Nat.le_of_ble_eq_true rfl, Nat.le_of_ble_eq_true rfl⟩) rfl hl.1 rfl (Nat.le_of_ble_eq_true rfl) dL_law_573 ⟨by have := hc.1; omega, by have := hc.2; omega⟩ hPc hPm hS (fun H locs hPc hPm hS => ?_)
    refine lv_istore (lv' := [(5, .int 2), (0, .ref z), (1, .ref (a 0)), (2, .ref (b 0)), (3, .ref o), (4, .int x4)]) hx hb dL_law_576 hl (by decide) rfl (fun ls hl => ?_)
    refine lv_aload_n hx hb dL_law_578 rfl (lv_at hl 3 rfl) ?_
    refine argR C (n := 1) (v := 1) hS (lv_at hl 1 rfl) (lv_at hl 5 rfl) (by decide) (hin 1 (by omega)) e1 dL_law_579 dL_law_580 dL_law_582 dL_law_583 dL_law_584 ?_
    refine lawM_i (σ := σ') (τ' := τ') (As := [.int p1]) (rest := []) C (kX8_write l D y b t C.bI _ τ τ' p1 v h2) (cwV 1 hts (gAV aM_L_119 aI_X8_write aS_X8_write aN_X8 aC_X8_write) rfl rfl rfl eX8_write ⟨Nat.le_of_ble_eq_true rfl, Nat.le_of_ble_eq_true rfl⟩) rfl hl.1 rfl (Nat.le_of_ble_eq_true rfl) dL_law_585 ⟨by have := hc.1; omega, by have := hc.2; omega⟩ hPc hPm hS (fun H locs hPc hPm hS => ?_)
    refine lv_istore (lv' := [(6, .int v), (5, .int 2), (0, .ref z), (1, .ref (a 0)), (2, .ref (b 0)), (3, .ref o), (4, .int x4)]) hx hb dL_law_588 hl (by decide) rfl (fun ls hl => ?_)
    refine lv_aload_n hx hb dL_law_590 rfl (lv_at hl 4 rfl) ?_
    refine lawM_i (σ := σ') (τ := τ') (τ' := τ') (As := []) (rest := []) C (kX8_thrown l D y b t C.bI _ τ' (τ'.1 0 0) rfl) (cwV 0 hts (gAV aM_L_91 aI_X8_thrown aS_X8_thrown aN_X8 aC_X8_thrown) rfl rfl rfl eX8_thrown ⟨Nat.le_of_ble_eq_true rfl, Nat.le_of_ble_eq_true rfl⟩) rfl hl.1 rfl (Nat.le_of_ble_eq_true rfl) dL_law_591 ⟨by have := hc.1; omega, by have := hc.2; omega⟩ hPc hPm hS (fun H locs hPc hPm hS => ?_)
    refine lv_iload hx hb dL_law_594 (lv_at hl 1 rfl) ?_
    refine lv_icmp_eq (tgt := 601) hx hb dL_law_596 (by decide) (fun _ => ?_) (fun c1 => absurd h3 c1)
    refine lv_iload hx hb dL_law_601 (lv_at hl 1 rfl) ?_
    refine lv_if_ne (tgt := 618) hx hb dL_law_603 (by decide) (fun _ => ?_) (fun c1 => absurd c1 (by decide))
    refine lv_goto (tgt := 1557) hx hb dL_law_618 (by decide) ?_
    refine W.widen (k := cells + 200) (n := slots + 1600) (by omega) (by omega) ?_
    exact next σ' τ' (f) _ _ _ hR' hPc hPm hS (lv_sub hl [2, 3, 4, 5, 6] rfl)
set_option maxHeartbeats 4000000 in
set_option maxRecDepth 100000 in
theorem law_byteAt {p : Program} {l : Launch} {e : Env} {s : State} {m : MethodId} {below : List Frame} {meth : Method} {c : Code} {D : va_G} {y : Nat → ClassId} {a b t ts : Nat → Nat} {o z L : Nat} {xs : Nat → Int32} (C : LX p l s m meth c D y a b t ts o z L xs) {Q : State → Prop} {cells slots : Nat} (hc : cells + 200 ≤ 601024 ∧ slots + 1600 ≤ 7293033) {x4 : Int32} (hin : ∀ d : Nat, d < 6 → vp_in (x4 + nI d) L) {σ τ : St} {f : Nat → Int64} {H : Heap} {locs : List Loc} {ls : Array Slot} (hR : RR σ τ) (hPc : va_P D vwCl (wO y a o f σ) H) (hPm : va_P D vwCl (wM y b τ) H) (hS : va_S (fun q => s.heap.size ≤ q) s.heap H locs) (hl : lv_has ls 9 [(0, .ref z), (1, .ref (a 0)), (2, .ref (b 0)), (3, .ref o), (4, .int x4)])
    (next : ∀ (σ τ : St) (f : Nat → Int64) (H : Heap) (locs : List Loc) (ls : Array Slot), RR σ τ → va_P D vwCl (wO y a o f σ) H → va_P D vwCl (wM y b τ) H → va_S (fun q => s.heap.size ≤ q) s.heap H locs → lv_has ls 9 [(0, .ref z), (1, .ref (a 0)), (2, .ref (b 0)), (3, .ref o), (4, .int x4)] → W p l e room_1 s m #[Value.ref z] below meth c H locs (cells + 200) (slots + 1600) Q (F0 m 1557 ls [])) : W p l e room_1 s m #[Value.ref z] below meth c H locs cells slots Q (F0 m 621 ls []) := by
  have hx := C.1.1
  have hb := C.1.2.1
  have hown := C.1.2.2.2.1
  have hts := C.1.2.2.2.2.1
  obtain ⟨p1, e1⟩ : ∃ q, q = xs (x4 + 1).toNatClampNeg := ⟨_, rfl⟩
  rcases P_byteAt hR p1 with ⟨r, τ', h1, h2, h3, hR'⟩ | ⟨v, τ', h1, h2, h3, hR'⟩
  · skip
    refine lv_aload_n hx hb dL_law_621 rfl (lv_at hl 1 rfl) ?_
    refine argR C (n := 1) (v := 1) hS (lv_at hl 0 rfl) (lv_at hl 4 rfl) (by decide) (hin 1 (by omega)) e1 dL_law_622 dL_law_623 dL_law_625 dL_law_626 dL_law_627 ?_
    refine lv_aload_n hx hb dL_law_628 rfl (lv_at hl 3 rfl) ?_
    refine lawH (σ' := σ) (f' := vp_updL f 0 r.toInt64) (As := [.ref (a 0), .int p1, .ref o]) (rest := []) C (kL_byteAt l D y a o t ts C.aI _ f σ p1 r h1) (vx_cwSW 3 hts (gAS aM_L_120 aT_L_byteAt aN_L aC_L_byteAt) rfl rfl rfl eL_byteAt ⟨Nat.le_of_ble_eq_true rfl, Nat.le_of_ble_eq_true rfl⟩) rfl hl.1 rfl (Nat.le_of_ble_eq_true rfl) dL_law_629 ⟨by have := hc.1; omega, by have := hc.2; omega⟩ hPc hPm hS (fun H locs hPc hPm hS => ?_)
    refine lv_istore (lv' := [(5, .int 0), (0, .ref z), (1, .ref (a 0)), (2, .ref (b 0)), (3, .ref o), (4, .int x4)]) hx hb dL_law_632 hl (by decide) rfl (fun ls hl => ?_)
    refine lv_aload_n hx hb dL_law_634 rfl (lv_at hl 3 rfl) ?_
    refine argR C (n := 1) (v := 1) hS (lv_at hl 1 rfl) (lv_at hl 5 rfl) (by decide) (hin 1 (by omega)) e1 dL_law_635 dL_law_636 dL_law_638 dL_law_639 dL_law_640 ?_
    refine lawM_i (σ := σ) (τ' := τ') (As := [.int p1]) (rest := []) C (kX8_byteAt l D y b t C.bI _ τ τ' p1 r h2) (cwV 1 hts (gAV aM_L_122 aI_X8_byteAt aS_X8_byteAt aN_X8 aC_X8_byteAt) rfl rfl rfl eX8_byteAt ⟨Nat.le_of_ble_eq_true rfl, Nat.le_of_ble_eq_true rfl⟩) rfl hl.1 rfl (Nat.le_of_ble_eq_true rfl) dL_law_641 ⟨by have := hc.1; omega, by have := hc.2; omega⟩ hPc hPm hS (fun H locs hPc hPm hS => ?_)
    refine lv_istore (lv' := [(6, .int r), (5, .int 0), (0, .ref z), (1, .ref (a 0)), (2, .ref (b 0)), (3, .ref o), (4, .int x4)]) hx hb dL_law_644 hl (by decide) rfl (fun ls hl => ?_)
    refine lv_aload_n hx hb dL_law_646 rfl (lv_at hl 4 rfl) ?_
    refine lawM_i (σ := σ) (τ := τ') (τ' := τ') (As := []) (rest := []) C (kX8_thrown l D y b t C.bI _ τ' (τ'.1 0 0) rfl) (cwV 0 hts (gAV aM_L_91 aI_X8_thrown aS_X8_thrown aN_X8 aC_X8_thrown) rfl rfl rfl eX8_thrown ⟨Nat.le_of_ble_eq_true rfl, Nat.le_of_ble_eq_true rfl⟩) rfl hl.1 rfl (Nat.le_of_ble_eq_true rfl) dL_law_647 ⟨by have := hc.1; omega, by have := hc.2; omega⟩ hPc hPm hS (fun H locs hPc hPm hS => ?_)
    refine lv_iload hx hb dL_law_650 (lv_at hl 1 rfl) ?_
    refine lv_icmp_eq (tgt := 657) hx hb dL_law_652 (by decide) (fun _ => ?_) (fun c1 => absurd h3 c1)
    refine lv_iload hx hb dL_law_657 (lv_at hl 1 rfl) ?_
    refine lv_if_ne (tgt := 674) hx hb dL_law_659 (by decide) (fun c1 => absurd rfl c1) (fun _ => ?_)
    refine lv_aload_n hx hb dL_law_662 rfl (lv_at hl 5 rfl) ?_
    refine lv_iconst (v := 0) hx hb dL_law_663 (by decide) ?_
    refine va_lald (i := 0) hx hb C.2.2.1 hPc 37 2 rfl rfl (by intro h; rcases h with h | h <;> revert h <;> decide) dL_law_664 ?_
    have e0 : vp_updL f 0 r.toInt64 (0 : Int32).toNatClampNeg = r.toInt64 := pk_uLs
    rw [e0]
    refine lv_iload hx hb dL_law_665 (lv_at hl 0 rfl) ?_
    refine lv_i2l (v := r.toInt64) hx hb dL_law_667 rfl ?_
    refine W.lcmp hx hb dL_law_668 ?_
    rw [lcmp_same]
    refine lv_if_eq (tgt := 674) hx hb dL_law_669 (by decide) (fun _ => ?_) (fun c1 => absurd rfl c1)
    refine lv_goto (tgt := 1557) hx hb dL_law_674 (by decide) ?_
    refine W.widen (k := cells + 200) (n := slots + 1600) (by omega) (by omega) ?_
    exact next σ τ' (vp_updL f 0 r.toInt64) _ _ _ hR' hPc hPm hS (lv_sub hl [2, 3, 4, 5, 6] rfl)
  · skip
    refine lv_aload_n hx hb dL_law_621 rfl (lv_at hl 1 rfl) ?_
    refine argR C (n := 1) (v := 1) hS (lv_at hl 0 rfl) (lv_at hl 4 rfl) (by decide) (hin 1 (by omega)) e1 dL_law_622 dL_law_623 dL_law_625 dL_law_626 dL_law_627 ?_
    refine lv_aload_n hx hb dL_law_628 rfl (lv_at hl 3 rfl) ?_
    refine lawH (σ' := σ) (f' := f) (As := [.ref (a 0), .int p1, .ref o]) (rest := []) C (xL_byteAt_3 l C.2.2.2.2.2.1 D y a o t ts C.aI _ f σ p1 h1) (vx_cwSW 3 hts (gAS aM_L_120 aT_L_byteAt aN_L aC_L_byteAt) rfl rfl rfl eL_byteAt ⟨Nat.le_of_ble_eq_true rfl, Nat.le_of_ble_eq_true rfl⟩) rfl hl.1 rfl (Nat.le_of_ble_eq_true rfl) dL_law_629 ⟨by have := hc.1; omega, by have := hc.2; omega⟩ hPc hPm hS (fun H locs hPc hPm hS => ?_)
    refine lv_istore (lv' := [(5, .int 1), (0, .ref z), (1, .ref (a 0)), (2, .ref (b 0)), (3, .ref o), (4, .int x4)]) hx hb dL_law_632 hl (by decide) rfl (fun ls hl => ?_)
    refine lv_aload_n hx hb dL_law_634 rfl (lv_at hl 3 rfl) ?_
    refine argR C (n := 1) (v := 1) hS (lv_at hl 1 rfl) (lv_at hl 5 rfl) (by decide) (hin 1 (by omega)) e1 dL_law_635 dL_law_636 dL_law_638 dL_law_639 dL_law_640 ?_
    refine lawM_i (σ := σ) (τ' := τ') (As := [.int p1]) (rest := []) C (kX8_byteAt l D y b t C.bI _ τ τ' p1 v h2) (cwV 1 hts (gAV aM_L_122 aI_X8_byteAt aS_X8_byteAt aN_X8 aC_X8_byteAt) rfl rfl rfl eX8_byteAt ⟨Nat.le_of_ble_eq_true rfl, Nat.le_of_ble_eq_true rfl⟩) rfl hl.1 rfl (Nat.le_of_ble_eq_true rfl) dL_law_641 ⟨by have := hc.1; omega, by have := hc.2; omega⟩ hPc hPm hS (fun H locs hPc hPm hS => ?_)
    refine lv_istore (lv' := [(6, .int v), (5, .int 1), (0, .ref z), (1, .ref (a 0)), (2, .ref (b 0)), (3, .ref o), (4, .int x4)]) hx hb dL_law_644 hl (by decide) rfl (fun ls hl => ?_)
    refine lv_aload_n hx hb dL_law_646 rfl (lv_at hl 4 rfl) ?_
    refine lawM_i (σ := σ) (τ := τ') (τ' := τ') (As := []) (rest := []) C (kX8_thrown l D y b t C.bI _ τ' (τ'.1 0 0) rfl) (cwV 0 hts (gAV aM_L_91 aI_X8_thrown aS_X8_thrown aN_X8 aC_X8_thrown) rfl rfl rfl eX8_thrown ⟨Nat.le_of_ble_eq_true rfl, Nat.le_of_ble_eq_true rfl⟩) rfl hl.1 rfl (Nat.le_of_ble_eq_true rfl) dL_law_647 ⟨by have := hc.1; omega, by have := hc.2; omega⟩ hPc hPm hS (fun H locs hPc hPm hS => ?_)
    refine lv_iload hx hb dL_law_650 (lv_at hl 1 rfl) ?_
    refine lv_icmp_eq (tgt := 657) hx hb dL_law_652 (by decide) (fun _ => ?_) (fun c1 => absurd h3 c1)
    refine lv_iload hx hb dL_law_657 (lv_at hl 1 rfl) ?_
    refine lv_if_ne (tgt := 674) hx hb dL_law_659 (by decide) (fun _ => ?_) (fun c1 => absurd c1 (by decide))
    refine lv_goto (tgt := 1557) hx hb dL_law_674 (by decide) ?_
    refine W.widen (k := cells + 200) (n := slots + 1600) (by omega) (by omega) ?_
    exact next σ τ' (f) _ _ _ hR' hPc hPm hS (lv_sub hl [2, 3, 4, 5, 6] rfl)
set_option maxHeartbeats 4000000 in
set_option maxRecDepth 100000 in
theorem law_begin {p : Program} {l : Launch} {e : Env} {s : State} {m : MethodId} {below : List Frame} {meth : Method} {c : Code} {D : va_G} {y : Nat → ClassId} {a b t ts : Nat → Nat} {o z L : Nat} {xs : Nat → Int32} (C : LX p l s m meth c D y a b t ts o z L xs) {Q : State → Prop} {cells slots : Nat} (hc : cells + 200 ≤ 601024 ∧ slots + 1600 ≤ 7293033) {x4 : Int32} {σ τ : St} {f : Nat → Int64} {H : Heap} {locs : List Loc} {ls : Array Slot} (hR : RR σ τ) (hPc : va_P D vwCl (wO y a o f σ) H) (hPm : va_P D vwCl (wM y b τ) H) (hS : va_S (fun q => s.heap.size ≤ q) s.heap H locs) (hl : lv_has ls 9 [(0, .ref z), (1, .ref (a 0)), (2, .ref (b 0)), (3, .ref o), (4, .int x4)])
    (next : ∀ (σ τ : St) (f : Nat → Int64) (H : Heap) (locs : List Loc) (ls : Array Slot), RR σ τ → va_P D vwCl (wO y a o f σ) H → va_P D vwCl (wM y b τ) H → va_S (fun q => s.heap.size ≤ q) s.heap H locs → lv_has ls 9 [(0, .ref z), (1, .ref (a 0)), (2, .ref (b 0)), (3, .ref o), (4, .int x4)] → W p l e room_1 s m #[Value.ref z] below meth c H locs (cells + 200) (slots + 1600) Q (F0 m 1557 ls [])) : W p l e room_1 s m #[Value.ref z] below meth c H locs cells slots Q (F0 m 677 ls []) := by
  have hx := C.1.1
  have hb := C.1.2.1
  have hown := C.1.2.2.2.1
  have hts := C.1.2.2.2.2.1
  obtain ⟨r, σ', τ', h1, h2, hR'⟩ := P_begin hR
  refine lv_aload_n hx hb dL_law_677 rfl (lv_at hl 1 rfl) ?_
  refine lawX_i (σ' := σ') (As := []) (rest := []) C (kX7_begin l D y a t (ao_I C.aI) _ σ σ' r h1) (cwV 0 hts (gAV aM_L_123 aI_X7_begin aS_X7_begin aN_X7 aC_X7_begin) rfl rfl rfl eX7_begin ⟨Nat.le_of_ble_eq_true rfl, Nat.le_of_ble_eq_true rfl⟩) rfl hl.1 rfl (Nat.le_of_ble_eq_true rfl) dL_law_678 ⟨by have := hc.1; omega, by have := hc.2; omega⟩ hPc hPm hS (fun H locs hPc hPm hS => ?_)
  refine lv_aload_n hx hb dL_law_681 rfl (lv_at hl 2 rfl) ?_
  refine lawM_i (σ := σ') (τ' := τ') (As := []) (rest := [.int r]) C (kX8_begin l D y b t C.bI _ τ τ' r h2) (cwV 0 hts (gAV aM_L_126 aI_X8_begin aS_X8_begin aN_X8 aC_X8_begin) rfl rfl rfl eX8_begin ⟨Nat.le_of_ble_eq_true rfl, Nat.le_of_ble_eq_true rfl⟩) rfl hl.1 rfl (Nat.le_of_ble_eq_true rfl) dL_law_682 ⟨by have := hc.1; omega, by have := hc.2; omega⟩ hPc hPm hS (fun H locs hPc hPm hS => ?_)
  refine lv_icmp_eq (tgt := 1557) hx hb dL_law_685 (by decide) (fun _ => ?_) (fun c1 => absurd rfl c1)
  refine W.widen (k := cells + 200) (n := slots + 1600) (by omega) (by omega) ?_
  exact next σ' τ' f _ _ _ hR' hPc hPm hS (lv_sub hl [0, 1, 2, 3, 4] rfl)
set_option maxHeartbeats 4000000 in
set_option maxRecDepth 100000 in
theorem law_premise {p : Program} {l : Launch} {e : Env} {s : State} {m : MethodId} {below : List Frame} {meth : Method} {c : Code} {D : va_G} {y : Nat → ClassId} {a b t ts : Nat → Nat} {o z L : Nat} {xs : Nat → Int32} (C : LX p l s m meth c D y a b t ts o z L xs) {Q : State → Prop} {cells slots : Nat} (hc : cells + 200 ≤ 601024 ∧ slots + 1600 ≤ 7293033) {x4 : Int32} (hin : ∀ d : Nat, d < 6 → vp_in (x4 + nI d) L) {σ τ : St} {f : Nat → Int64} {H : Heap} {locs : List Loc} {ls : Array Slot} (hR : RR σ τ) (hPc : va_P D vwCl (wO y a o f σ) H) (hPm : va_P D vwCl (wM y b τ) H) (hS : va_S (fun q => s.heap.size ≤ q) s.heap H locs) (hl : lv_has ls 9 [(0, .ref z), (1, .ref (a 0)), (2, .ref (b 0)), (3, .ref o), (4, .int x4)])
    (next : ∀ (σ τ : St) (f : Nat → Int64) (H : Heap) (locs : List Loc) (ls : Array Slot), RR σ τ → va_P D vwCl (wO y a o f σ) H → va_P D vwCl (wM y b τ) H → va_S (fun q => s.heap.size ≤ q) s.heap H locs → lv_has ls 9 [(0, .ref z), (1, .ref (a 0)), (2, .ref (b 0)), (3, .ref o), (4, .int x4)] → W p l e room_1 s m #[Value.ref z] below meth c H locs (cells + 200) (slots + 1600) Q (F0 m 1557 ls [])) : W p l e room_1 s m #[Value.ref z] below meth c H locs cells slots Q (F0 m 690 ls []) := by
  have hx := C.1.1
  have hb := C.1.2.1
  have hown := C.1.2.2.2.1
  have hts := C.1.2.2.2.2.1
  obtain ⟨p1, e1⟩ : ∃ q, q = xs (x4 + 1).toNatClampNeg := ⟨_, rfl⟩
  rcases P_premise hR p1 with ⟨r, σ', τ', h1, h2, h3, hR'⟩ | ⟨v, σ', τ', h1, h2, h3, hR'⟩ | ⟨v, σ', τ', h1, h2, h3, hR'⟩
  · skip
    refine lv_aload_n hx hb dL_law_690 rfl (lv_at hl 1 rfl) ?_
    refine argR C (n := 1) (v := 1) hS (lv_at hl 0 rfl) (lv_at hl 4 rfl) (by decide) (hin 1 (by omega)) e1 dL_law_691 dL_law_692 dL_law_694 dL_law_695 dL_law_696 ?_
    refine lv_aload_n hx hb dL_law_697 rfl (lv_at hl 3 rfl) ?_
    refine lawH (σ' := σ') (f' := vp_updL f 0 r.toInt64) (As := [.ref (a 0), .int p1, .ref o]) (rest := []) C (kL_premise l D y a o t ts C.aI _ f σ σ' p1 r h1) (vx_cwSW 3 hts (gAS aM_L_127 aT_L_premise aN_L aC_L_premise) rfl rfl rfl eL_premise ⟨Nat.le_of_ble_eq_true rfl, Nat.le_of_ble_eq_true rfl⟩) rfl hl.1 rfl (Nat.le_of_ble_eq_true rfl) dL_law_698 ⟨by have := hc.1; omega, by have := hc.2; omega⟩ hPc hPm hS (fun H locs hPc hPm hS => ?_)
    refine lv_istore (lv' := [(5, .int 0), (0, .ref z), (1, .ref (a 0)), (2, .ref (b 0)), (3, .ref o), (4, .int x4)]) hx hb dL_law_701 hl (by decide) rfl (fun ls hl => ?_)
    refine lv_aload_n hx hb dL_law_703 rfl (lv_at hl 3 rfl) ?_
    refine argR C (n := 1) (v := 1) hS (lv_at hl 1 rfl) (lv_at hl 5 rfl) (by decide) (hin 1 (by omega)) e1 dL_law_704 dL_law_705 dL_law_707 dL_law_708 dL_law_709 ?_
    refine lawM_i (σ := σ') (τ' := τ') (As := [.int p1]) (rest := []) C (kX8_premise l D y b t C.bI _ τ τ' p1 r h2) (cwV 1 hts (gAV aM_L_129 aI_X8_premise aS_X8_premise aN_X8 aC_X8_premise) rfl rfl rfl eX8_premise ⟨Nat.le_of_ble_eq_true rfl, Nat.le_of_ble_eq_true rfl⟩) rfl hl.1 rfl (Nat.le_of_ble_eq_true rfl) dL_law_710 ⟨by have := hc.1; omega, by have := hc.2; omega⟩ hPc hPm hS (fun H locs hPc hPm hS => ?_)
    refine lv_istore (lv' := [(6, .int r), (5, .int 0), (0, .ref z), (1, .ref (a 0)), (2, .ref (b 0)), (3, .ref o), (4, .int x4)]) hx hb dL_law_713 hl (by decide) rfl (fun ls hl => ?_)
    refine lv_aload_n hx hb dL_law_715 rfl (lv_at hl 4 rfl) ?_
    refine lawM_i (σ := σ') (τ := τ') (τ' := τ') (As := []) (rest := []) C (kX8_thrown l D y b t C.bI _ τ' (τ'.1 0 0) rfl) (cwV 0 hts (gAV aM_L_91 aI_X8_thrown aS_X8_thrown aN_X8 aC_X8_thrown) rfl rfl rfl eX8_thrown ⟨Nat.le_of_ble_eq_true rfl, Nat.le_of_ble_eq_true rfl⟩) rfl hl.1 rfl (Nat.le_of_ble_eq_true rfl) dL_law_716 ⟨by have := hc.1; omega, by have := hc.2; omega⟩ hPc hPm hS (fun H locs hPc hPm hS => ?_)
    refine lv_iload hx hb dL_law_719 (lv_at hl 1 rfl) ?_
    refine lv_icmp_eq (tgt := 726) hx hb dL_law_721 (by decide) (fun _ => ?_) (fun c1 => absurd h3 c1)
    refine lv_iload hx hb dL_law_726 (lv_at hl 1 rfl) ?_
    refine lv_if_ne (tgt := 743) hx hb dL_law_728 (by decide) (fun c1 => absurd rfl c1) (fun _ => ?_)
    refine lv_aload_n hx hb dL_law_731 rfl (lv_at hl 5 rfl) ?_
    refine lv_iconst (v := 0) hx hb dL_law_732 (by decide) ?_
    refine va_lald (i := 0) hx hb C.2.2.1 hPc 37 2 rfl rfl (by intro h; rcases h with h | h <;> revert h <;> decide) dL_law_733 ?_
    have e0 : vp_updL f 0 r.toInt64 (0 : Int32).toNatClampNeg = r.toInt64 := pk_uLs
    rw [e0]
    refine lv_iload hx hb dL_law_734 (lv_at hl 0 rfl) ?_
    refine lv_i2l (v := r.toInt64) hx hb dL_law_736 rfl ?_
    refine W.lcmp hx hb dL_law_737 ?_
    rw [lcmp_same]
    refine lv_if_eq (tgt := 743) hx hb dL_law_738 (by decide) (fun _ => ?_) (fun c1 => absurd rfl c1)
    refine lv_goto (tgt := 1557) hx hb dL_law_743 (by decide) ?_
    refine W.widen (k := cells + 200) (n := slots + 1600) (by omega) (by omega) ?_
    exact next σ' τ' (vp_updL f 0 r.toInt64) _ _ _ hR' hPc hPm hS (lv_sub hl [2, 3, 4, 5, 6] rfl)
  · skip
    refine lv_aload_n hx hb dL_law_690 rfl (lv_at hl 1 rfl) ?_
    refine argR C (n := 1) (v := 1) hS (lv_at hl 0 rfl) (lv_at hl 4 rfl) (by decide) (hin 1 (by omega)) e1 dL_law_691 dL_law_692 dL_law_694 dL_law_695 dL_law_696 ?_
    refine lv_aload_n hx hb dL_law_697 rfl (lv_at hl 3 rfl) ?_
    refine lawH (σ' := σ') (f' := f) (As := [.ref (a 0), .int p1, .ref o]) (rest := []) C (xL_premise_3 l C.2.2.2.2.2.1 D y a o t ts C.aI _ f σ σ' p1 h1) (vx_cwSW 3 hts (gAS aM_L_127 aT_L_premise aN_L aC_L_premise) rfl rfl rfl eL_premise ⟨Nat.le_of_ble_eq_true rfl, Nat.le_of_ble_eq_true rfl⟩) rfl hl.1 rfl (Nat.le_of_ble_eq_true rfl) dL_law_698 ⟨by have := hc.1; omega, by have := hc.2; omega⟩ hPc hPm hS (fun H locs hPc hPm hS => ?_)
    refine lv_istore (lv' := [(5, .int 1), (0, .ref z), (1, .ref (a 0)), (2, .ref (b 0)), (3, .ref o), (4, .int x4)]) hx hb dL_law_701 hl (by decide) rfl (fun ls hl => ?_)
    refine lv_aload_n hx hb dL_law_703 rfl (lv_at hl 3 rfl) ?_
    refine argR C (n := 1) (v := 1) hS (lv_at hl 1 rfl) (lv_at hl 5 rfl) (by decide) (hin 1 (by omega)) e1 dL_law_704 dL_law_705 dL_law_707 dL_law_708 dL_law_709 ?_
    refine lawM_i (σ := σ') (τ' := τ') (As := [.int p1]) (rest := []) C (kX8_premise l D y b t C.bI _ τ τ' p1 v h2) (cwV 1 hts (gAV aM_L_129 aI_X8_premise aS_X8_premise aN_X8 aC_X8_premise) rfl rfl rfl eX8_premise ⟨Nat.le_of_ble_eq_true rfl, Nat.le_of_ble_eq_true rfl⟩) rfl hl.1 rfl (Nat.le_of_ble_eq_true rfl) dL_law_710 ⟨by have := hc.1; omega, by have := hc.2; omega⟩ hPc hPm hS (fun H locs hPc hPm hS => ?_)
    refine lv_istore (lv' := [(6, .int v), (5, .int 1), (0, .ref z), (1, .ref (a 0)), (2, .ref (b 0)), (3, .ref o), (4, .int x4)]) hx hb dL_law_713 hl (by decide) rfl (fun ls hl => ?_)
    refine lv_aload_n hx hb dL_law_715 rfl (lv_at hl 4 rfl) ?_
    refine lawM_i (σ := σ') (τ := τ') (τ' := τ') (As := []) (rest := []) C (kX8_thrown l D y b t C.bI _ τ' (τ'.1 0 0) rfl) (cwV 0 hts (gAV aM_L_91 aI_X8_thrown aS_X8_thrown aN_X8 aC_X8_thrown) rfl rfl rfl eX8_thrown ⟨Nat.le_of_ble_eq_true rfl, Nat.le_of_ble_eq_true rfl⟩) rfl hl.1 rfl (Nat.le_of_ble_eq_true rfl) dL_law_716 ⟨by have := hc.1; omega, by have := hc.2; omega⟩ hPc hPm hS (fun H locs hPc hPm hS => ?_)
    refine lv_iload hx hb dL_law_719 (lv_at hl 1 rfl) ?_
    refine lv_icmp_eq (tgt := 726) hx hb dL_law_721 (by decide) (fun _ => ?_) (fun c1 => absurd h3 c1)
    refine lv_iload hx hb dL_law_726 (lv_at hl 1 rfl) ?_
    refine lv_if_ne (tgt := 743) hx hb dL_law_728 (by decide) (fun _ => ?_) (fun c1 => absurd c1 (by decide))
    refine lv_goto (tgt := 1557) hx hb dL_law_743 (by decide) ?_
    refine W.widen (k := cells + 200) (n := slots + 1600) (by omega) (by omega) ?_
    exact next σ' τ' (f) _ _ _ hR' hPc hPm hS (lv_sub hl [2, 3, 4, 5, 6] rfl)
  · skip
    refine lv_aload_n hx hb dL_law_690 rfl (lv_at hl 1 rfl) ?_
    refine argR C (n := 1) (v := 1) hS (lv_at hl 0 rfl) (lv_at hl 4 rfl) (by decide) (hin 1 (by omega)) e1 dL_law_691 dL_law_692 dL_law_694 dL_law_695 dL_law_696 ?_
    refine lv_aload_n hx hb dL_law_697 rfl (lv_at hl 3 rfl) ?_
    refine lawH (σ' := σ') (f' := f) (As := [.ref (a 0), .int p1, .ref o]) (rest := []) C (xL_premise_1 l C.2.2.2.2.2.1 D y a o t ts C.aI _ f σ σ' p1 h1) (vx_cwSW 3 hts (gAS aM_L_127 aT_L_premise aN_L aC_L_premise) rfl rfl rfl eL_premise ⟨Nat.le_of_ble_eq_true rfl, Nat.le_of_ble_eq_true rfl⟩) rfl hl.1 rfl (Nat.le_of_ble_eq_true rfl) dL_law_698 ⟨by have := hc.1; omega, by have := hc.2; omega⟩ hPc hPm hS (fun H locs hPc hPm hS => ?_)
    refine lv_istore (lv' := [(5, .int 2), (0, .ref z), (1, .ref (a 0)), (2, .ref (b 0)), (3, .ref o), (4, .int x4)]) hx hb dL_law_701 hl (by decide) rfl (fun ls hl => ?_)
    refine lv_aload_n hx hb dL_law_703 rfl (lv_at hl 3 rfl) ?_
    refine argR C (n := 1) (v := 1) hS (lv_at hl 1 rfl) (lv_at hl 5 rfl) (by decide) (hin 1 (by omega)) e1 dL_law_704 dL_law_705 dL_law_707 dL_law_708 dL_law_709 ?_
    refine lawM_i (σ := σ') (τ' := τ') (As := [.int p1]) (rest := []) C (kX8_premise l D y b t C.bI _ τ τ' p1 v h2) (cwV 1 hts (gAV aM_L_129 aI_X8_premise aS_X8_premise aN_X8 aC_X8_premise) rfl rfl rfl eX8_premise ⟨Nat.le_of_ble_eq_true rfl, Nat.le_of_ble_eq_true rfl⟩) rfl hl.1 rfl (Nat.le_of_ble_eq_true rfl) dL_law_710 ⟨by have := hc.1; omega, by have := hc.2; omega⟩ hPc hPm hS (fun H locs hPc hPm hS => ?_)
    refine lv_istore (lv' := [(6, .int v), (5, .int 2), (0, .ref z), (1, .ref (a 0)), (2, .ref (b 0)), (3, .ref o), (4, .int x4)]) hx hb dL_law_713 hl (by decide) rfl (fun ls hl => ?_)
    refine lv_aload_n hx hb dL_law_715 rfl (lv_at hl 4 rfl) ?_
    refine lawM_i (σ := σ') (τ := τ') (τ' := τ') (As := []) (rest := []) C (kX8_thrown l D y b t C.bI _ τ' (τ'.1 0 0) rfl) (cwV 0 hts (gAV aM_L_91 aI_X8_thrown aS_X8_thrown aN_X8 aC_X8_thrown) rfl rfl rfl eX8_thrown ⟨Nat.le_of_ble_eq_true rfl, Nat.le_of_ble_eq_true rfl⟩) rfl hl.1 rfl (Nat.le_of_ble_eq_true rfl) dL_law_716 ⟨by have := hc.1; omega, by have := hc.2; omega⟩ hPc hPm hS (fun H locs hPc hPm hS => ?_)
    refine lv_iload hx hb dL_law_719 (lv_at hl 1 rfl) ?_
    refine lv_icmp_eq (tgt := 726) hx hb dL_law_721 (by decide) (fun _ => ?_) (fun c1 => absurd h3 c1)
    refine lv_iload hx hb dL_law_726 (lv_at hl 1 rfl) ?_
    refine lv_if_ne (tgt := 743) hx hb dL_law_728 (by decide) (fun _ => ?_) (fun c1 => absurd c1 (by decide))
    refine lv_goto (tgt := 1557) hx hb dL_law_743 (by decide) ?_
    refine W.widen (k := cells + 200) (n := slots + 1600) (by omega) (by omega) ?_
    exact next σ' τ' (f) _ _ _ hR' hPc hPm hS (lv_sub hl [2, 3, 4, 5, 6] rfl)
set_option maxHeartbeats 4000000 in
set_option maxRecDepth 100000 in
theorem law_assume {p : Program} {l : Launch} {e : Env} {s : State} {m : MethodId} {below : List Frame} {meth : Method} {c : Code} {D : va_G} {y : Nat → ClassId} {a b t ts : Nat → Nat} {o z L : Nat} {xs : Nat → Int32} (C : LX p l s m meth c D y a b t ts o z L xs) {Q : State → Prop} {cells slots : Nat} (hc : cells + 200 ≤ 601024 ∧ slots + 1600 ≤ 7293033) {x4 : Int32} (hin : ∀ d : Nat, d < 6 → vp_in (x4 + nI d) L) {σ τ : St} {f : Nat → Int64} {H : Heap} {locs : List Loc} {ls : Array Slot} (hR : RR σ τ) (hPc : va_P D vwCl (wO y a o f σ) H) (hPm : va_P D vwCl (wM y b τ) H) (hS : va_S (fun q => s.heap.size ≤ q) s.heap H locs) (hl : lv_has ls 9 [(0, .ref z), (1, .ref (a 0)), (2, .ref (b 0)), (3, .ref o), (4, .int x4)])
    (next : ∀ (σ τ : St) (f : Nat → Int64) (H : Heap) (locs : List Loc) (ls : Array Slot), RR σ τ → va_P D vwCl (wO y a o f σ) H → va_P D vwCl (wM y b τ) H → va_S (fun q => s.heap.size ≤ q) s.heap H locs → lv_has ls 9 [(0, .ref z), (1, .ref (a 0)), (2, .ref (b 0)), (3, .ref o), (4, .int x4)] → W p l e room_1 s m #[Value.ref z] below meth c H locs (cells + 200) (slots + 1600) Q (F0 m 1557 ls [])) : W p l e room_1 s m #[Value.ref z] below meth c H locs cells slots Q (F0 m 746 ls []) := by
  have hx := C.1.1
  have hb := C.1.2.1
  have hown := C.1.2.2.2.1
  have hts := C.1.2.2.2.2.1
  obtain ⟨p1, e1⟩ : ∃ q, q = xs (x4 + 1).toNatClampNeg := ⟨_, rfl⟩
  rcases P_assume hR p1 with ⟨r, σ', τ', h1, h2, h3, hR'⟩ | ⟨v, σ', τ', h1, h2, h3, hR'⟩ | ⟨v, σ', τ', h1, h2, h3, hR'⟩
  · skip
    refine lv_aload_n hx hb dL_law_746 rfl (lv_at hl 1 rfl) ?_
    refine argR C (n := 1) (v := 1) hS (lv_at hl 0 rfl) (lv_at hl 4 rfl) (by decide) (hin 1 (by omega)) e1 dL_law_747 dL_law_748 dL_law_750 dL_law_751 dL_law_752 ?_
    refine lv_aload_n hx hb dL_law_753 rfl (lv_at hl 3 rfl) ?_
    refine lawH (σ' := σ') (f' := vp_updL f 0 r.toInt64) (As := [.ref (a 0), .int p1, .ref o]) (rest := []) C (kL_assume l D y a o t ts C.aI _ f σ σ' p1 r h1) (vx_cwSW 3 hts (gAS aM_L_130 aT_L_assume aN_L aC_L_assume) rfl rfl rfl eL_assume ⟨Nat.le_of_ble_eq_true rfl, Nat.le_of_ble_eq_true rfl⟩) rfl hl.1 rfl (Nat.le_of_ble_eq_true rfl) dL_law_754 ⟨by have := hc.1; omega, by have := hc.2; omega⟩ hPc hPm hS (fun H locs hPc hPm hS => ?_)
    refine lv_istore (lv' := [(5, .int 0), (0, .ref z), (1, .ref (a 0)), (2, .ref (b 0)), (3, .ref o), (4, .int x4)]) hx hb dL_law_757 hl (by decide) rfl (fun ls hl => ?_)
    refine lv_aload_n hx hb dL_law_759 rfl (lv_at hl 3 rfl) ?_
    refine argR C (n := 1) (v := 1) hS (lv_at hl 1 rfl) (lv_at hl 5 rfl) (by decide) (hin 1 (by omega)) e1 dL_law_760 dL_law_761 dL_law_763 dL_law_764 dL_law_765 ?_
    refine lawM_i (σ := σ') (τ' := τ') (As := [.int p1]) (rest := []) C (kX8_assume l D y b t C.bI _ τ τ' p1 r h2) (cwV 1 hts (gAV aM_L_132 aI_X8_assume aS_X8_assume aN_X8 aC_X8_assume) rfl rfl rfl eX8_assume ⟨Nat.le_of_ble_eq_true rfl, Nat.le_of_ble_eq_true rfl⟩) rfl hl.1 rfl (Nat.le_of_ble_eq_true rfl) dL_law_766 ⟨by have := hc.1; omega, by have := hc.2; omega⟩ hPc hPm hS (fun H locs hPc hPm hS => ?_)
    refine lv_istore (lv' := [(6, .int r), (5, .int 0), (0, .ref z), (1, .ref (a 0)), (2, .ref (b 0)), (3, .ref o), (4, .int x4)]) hx hb dL_law_769 hl (by decide) rfl (fun ls hl => ?_)
    refine lv_aload_n hx hb dL_law_771 rfl (lv_at hl 4 rfl) ?_
    refine lawM_i (σ := σ') (τ := τ') (τ' := τ') (As := []) (rest := []) C (kX8_thrown l D y b t C.bI _ τ' (τ'.1 0 0) rfl) (cwV 0 hts (gAV aM_L_91 aI_X8_thrown aS_X8_thrown aN_X8 aC_X8_thrown) rfl rfl rfl eX8_thrown ⟨Nat.le_of_ble_eq_true rfl, Nat.le_of_ble_eq_true rfl⟩) rfl hl.1 rfl (Nat.le_of_ble_eq_true rfl) dL_law_772 ⟨by have := hc.1; omega, by have := hc.2; omega⟩ hPc hPm hS (fun H locs hPc hPm hS => ?_)
    refine lv_iload hx hb dL_law_775 (lv_at hl 1 rfl) ?_
    refine lv_icmp_eq (tgt := 782) hx hb dL_law_777 (by decide) (fun _ => ?_) (fun c1 => absurd h3 c1)
    refine lv_iload hx hb dL_law_782 (lv_at hl 1 rfl) ?_
    refine lv_if_ne (tgt := 799) hx hb dL_law_784 (by decide) (fun c1 => absurd rfl c1) (fun _ => ?_)
    refine lv_aload_n hx hb dL_law_787 rfl (lv_at hl 5 rfl) ?_
    refine lv_iconst (v := 0) hx hb dL_law_788 (by decide) ?_
    refine va_lald (i := 0) hx hb C.2.2.1 hPc 37 2 rfl rfl (by intro h; rcases h with h | h <;> revert h <;> decide) dL_law_789 ?_
    have e0 : vp_updL f 0 r.toInt64 (0 : Int32).toNatClampNeg = r.toInt64 := pk_uLs
    rw [e0]
    refine lv_iload hx hb dL_law_790 (lv_at hl 0 rfl) ?_
    refine lv_i2l (v := r.toInt64) hx hb dL_law_792 rfl ?_
    refine W.lcmp hx hb dL_law_793 ?_
    rw [lcmp_same]
    refine lv_if_eq (tgt := 799) hx hb dL_law_794 (by decide) (fun _ => ?_) (fun c1 => absurd rfl c1)
    refine lv_goto (tgt := 1557) hx hb dL_law_799 (by decide) ?_
    refine W.widen (k := cells + 200) (n := slots + 1600) (by omega) (by omega) ?_
    exact next σ' τ' (vp_updL f 0 r.toInt64) _ _ _ hR' hPc hPm hS (lv_sub hl [2, 3, 4, 5, 6] rfl)
  · skip
    refine lv_aload_n hx hb dL_law_746 rfl (lv_at hl 1 rfl) ?_
    refine argR C (n := 1) (v := 1) hS (lv_at hl 0 rfl) (lv_at hl 4 rfl) (by decide) (hin 1 (by omega)) e1 dL_law_747 dL_law_748 dL_law_750 dL_law_751 dL_law_752 ?_
    refine lv_aload_n hx hb dL_law_753 rfl (lv_at hl 3 rfl) ?_
    refine lawH (σ' := σ') (f' := f) (As := [.ref (a 0), .int p1, .ref o]) (rest := []) C (xL_assume_3 l C.2.2.2.2.2.1 D y a o t ts C.aI _ f σ σ' p1 h1) (vx_cwSW 3 hts (gAS aM_L_130 aT_L_assume aN_L aC_L_assume) rfl rfl rfl eL_assume ⟨Nat.le_of_ble_eq_true rfl, Nat.le_of_ble_eq_true rfl⟩) rfl hl.1 rfl (Nat.le_of_ble_eq_true rfl) dL_law_754 ⟨by have := hc.1; omega, by have := hc.2; omega⟩ hPc hPm hS (fun H locs hPc hPm hS => ?_)
    refine lv_istore (lv' := [(5, .int 1), (0, .ref z), (1, .ref (a 0)), (2, .ref (b 0)), (3, .ref o), (4, .int x4)]) hx hb dL_law_757 hl (by decide) rfl (fun ls hl => ?_)
    refine lv_aload_n hx hb dL_law_759 rfl (lv_at hl 3 rfl) ?_
    refine argR C (n := 1) (v := 1) hS (lv_at hl 1 rfl) (lv_at hl 5 rfl) (by decide) (hin 1 (by omega)) e1 dL_law_760 dL_law_761 dL_law_763 dL_law_764 dL_law_765 ?_
    refine lawM_i (σ := σ') (τ' := τ') (As := [.int p1]) (rest := []) C (kX8_assume l D y b t C.bI _ τ τ' p1 v h2) (cwV 1 hts (gAV aM_L_132 aI_X8_assume aS_X8_assume aN_X8 aC_X8_assume) rfl rfl rfl eX8_assume ⟨Nat.le_of_ble_eq_true rfl, Nat.le_of_ble_eq_true rfl⟩) rfl hl.1 rfl (Nat.le_of_ble_eq_true rfl) dL_law_766 ⟨by have := hc.1; omega, by have := hc.2; omega⟩ hPc hPm hS (fun H locs hPc hPm hS => ?_)
    refine lv_istore (lv' := [(6, .int v), (5, .int 1), (0, .ref z), (1, .ref (a 0)), (2, .ref (b 0)), (3, .ref o), (4, .int x4)]) hx hb dL_law_769 hl (by decide) rfl (fun ls hl => ?_)
    refine lv_aload_n hx hb dL_law_771 rfl (lv_at hl 4 rfl) ?_
    refine lawM_i (σ := σ') (τ := τ') (τ' := τ') (As := []) (rest := []) C (kX8_thrown l D y b t C.bI _ τ' (τ'.1 0 0) rfl) (cwV 0 hts (gAV aM_L_91 aI_X8_thrown aS_X8_thrown aN_X8 aC_X8_thrown) rfl rfl rfl eX8_thrown ⟨Nat.le_of_ble_eq_true rfl, Nat.le_of_ble_eq_true rfl⟩) rfl hl.1 rfl (Nat.le_of_ble_eq_true rfl) dL_law_772 ⟨by have := hc.1; omega, by have := hc.2; omega⟩ hPc hPm hS (fun H locs hPc hPm hS => ?_)
    refine lv_iload hx hb dL_law_775 (lv_at hl 1 rfl) ?_
    refine lv_icmp_eq (tgt := 782) hx hb dL_law_777 (by decide) (fun _ => ?_) (fun c1 => absurd h3 c1)
    refine lv_iload hx hb dL_law_782 (lv_at hl 1 rfl) ?_
    refine lv_if_ne (tgt := 799) hx hb dL_law_784 (by decide) (fun _ => ?_) (fun c1 => absurd c1 (by decide))
    refine lv_goto (tgt := 1557) hx hb dL_law_799 (by decide) ?_
    refine W.widen (k := cells + 200) (n := slots + 1600) (by omega) (by omega) ?_
    exact next σ' τ' (f) _ _ _ hR' hPc hPm hS (lv_sub hl [2, 3, 4, 5, 6] rfl)
  · skip
    refine lv_aload_n hx hb dL_law_746 rfl (lv_at hl 1 rfl) ?_
    refine argR C (n := 1) (v := 1) hS (lv_at hl 0 rfl) (lv_at hl 4 rfl) (by decide) (hin 1 (by omega)) e1 dL_law_747 dL_law_748 dL_law_750 dL_law_751 dL_law_752 ?_
    refine lv_aload_n hx hb dL_law_753 rfl (lv_at hl 3 rfl) ?_
    refine lawH (σ' := σ') (f' := f) (As := [.ref (a 0), .int p1, .ref o]) (rest := []) C (xL_assume_1 l C.2.2.2.2.2.1 D y a o t ts C.aI _ f σ σ' p1 h1) (vx_cwSW 3 hts (gAS aM_L_130 aT_L_assume aN_L aC_L_assume) rfl rfl rfl eL_assume ⟨Nat.le_of_ble_eq_true rfl, Nat.le_of_ble_eq_true rfl⟩) rfl hl.1 rfl (Nat.le_of_ble_eq_true rfl) dL_law_754 ⟨by have := hc.1; omega, by have := hc.2; omega⟩ hPc hPm hS (fun H locs hPc hPm hS => ?_)
    refine lv_istore (lv' := [(5, .int 2), (0, .ref z), (1, .ref (a 0)), (2, .ref (b 0)), (3, .ref o), (4, .int x4)]) hx hb dL_law_757 hl (by decide) rfl (fun ls hl => ?_)
    refine lv_aload_n hx hb dL_law_759 rfl (lv_at hl 3 rfl) ?_
    refine argR C (n := 1) (v := 1) hS (lv_at hl 1 rfl) (lv_at hl 5 rfl) (by decide) (hin 1 (by omega)) e1 dL_law_760 dL_law_761 dL_law_763 dL_law_764 dL_law_765 ?_
    refine lawM_i (σ := σ') (τ' := τ') (As := [.int p1]) (rest := []) C (kX8_assume l D y b t C.bI _ τ τ' p1 v h2) (cwV 1 hts (gAV aM_L_132 aI_X8_assume aS_X8_assume aN_X8 aC_X8_assume) rfl rfl rfl eX8_assume ⟨Nat.le_of_ble_eq_true rfl, Nat.le_of_ble_eq_true rfl⟩) rfl hl.1 rfl (Nat.le_of_ble_eq_true rfl) dL_law_766 ⟨by have := hc.1; omega, by have := hc.2; omega⟩ hPc hPm hS (fun H locs hPc hPm hS => ?_)
    refine lv_istore (lv' := [(6, .int v), (5, .int 2), (0, .ref z), (1, .ref (a 0)), (2, .ref (b 0)), (3, .ref o), (4, .int x4)]) hx hb dL_law_769 hl (by decide) rfl (fun ls hl => ?_)
    refine lv_aload_n hx hb dL_law_771 rfl (lv_at hl 4 rfl) ?_
    refine lawM_i (σ := σ') (τ := τ') (τ' := τ') (As := []) (rest := []) C (kX8_thrown l D y b t C.bI _ τ' (τ'.1 0 0) rfl) (cwV 0 hts (gAV aM_L_91 aI_X8_thrown aS_X8_thrown aN_X8 aC_X8_thrown) rfl rfl rfl eX8_thrown ⟨Nat.le_of_ble_eq_true rfl, Nat.le_of_ble_eq_true rfl⟩) rfl hl.1 rfl (Nat.le_of_ble_eq_true rfl) dL_law_772 ⟨by have := hc.1; omega, by have := hc.2; omega⟩ hPc hPm hS (fun H locs hPc hPm hS => ?_)
    refine lv_iload hx hb dL_law_775 (lv_at hl 1 rfl) ?_
    refine lv_icmp_eq (tgt := 782) hx hb dL_law_777 (by decide) (fun _ => ?_) (fun c1 => absurd h3 c1)
    refine lv_iload hx hb dL_law_782 (lv_at hl 1 rfl) ?_
    refine lv_if_ne (tgt := 799) hx hb dL_law_784 (by decide) (fun _ => ?_) (fun c1 => absurd c1 (by decide))
    refine lv_goto (tgt := 1557) hx hb dL_law_799 (by decide) ?_
    refine W.widen (k := cells + 200) (n := slots + 1600) (by omega) (by omega) ?_
    exact next σ' τ' (f) _ _ _ hR' hPc hPm hS (lv_sub hl [2, 3, 4, 5, 6] rfl)
set_option maxHeartbeats 4000000 in
set_option maxRecDepth 100000 in
theorem law_close {p : Program} {l : Launch} {e : Env} {s : State} {m : MethodId} {below : List Frame} {meth : Method} {c : Code} {D : va_G} {y : Nat → ClassId} {a b t ts : Nat → Nat} {o z L : Nat} {xs : Nat → Int32} (C : LX p l s m meth c D y a b t ts o z L xs) {Q : State → Prop} {cells slots : Nat} (hc : cells + 200 ≤ 601024 ∧ slots + 1600 ≤ 7293033) {x4 : Int32} {σ τ : St} {f : Nat → Int64} {H : Heap} {locs : List Loc} {ls : Array Slot} (hR : RR σ τ) (hPc : va_P D vwCl (wO y a o f σ) H) (hPm : va_P D vwCl (wM y b τ) H) (hS : va_S (fun q => s.heap.size ≤ q) s.heap H locs) (hl : lv_has ls 9 [(0, .ref z), (1, .ref (a 0)), (2, .ref (b 0)), (3, .ref o), (4, .int x4)])
    (next : ∀ (σ τ : St) (f : Nat → Int64) (H : Heap) (locs : List Loc) (ls : Array Slot), RR σ τ → va_P D vwCl (wO y a o f σ) H → va_P D vwCl (wM y b τ) H → va_S (fun q => s.heap.size ≤ q) s.heap H locs → lv_has ls 9 [(0, .ref z), (1, .ref (a 0)), (2, .ref (b 0)), (3, .ref o), (4, .int x4)] → W p l e room_1 s m #[Value.ref z] below meth c H locs (cells + 200) (slots + 1600) Q (F0 m 1557 ls [])) : W p l e room_1 s m #[Value.ref z] below meth c H locs cells slots Q (F0 m 802 ls []) := by
  have hx := C.1.1
  have hb := C.1.2.1
  have hown := C.1.2.2.2.1
  have hts := C.1.2.2.2.2.1
  rcases P_close hR with ⟨r, σ', τ', h1, h2, h3, hR'⟩ | ⟨v, σ', τ', h1, h2, h3, hR'⟩
  · skip
    refine lv_aload_n hx hb dL_law_802 rfl (lv_at hl 1 rfl) ?_
    refine lv_aload_n hx hb dL_law_803 rfl (lv_at hl 3 rfl) ?_
    refine lawH (σ' := σ') (f' := vp_updL f 0 r.toInt64) (As := [.ref (a 0), .ref o]) (rest := []) C (kL_close l D y a o t ts C.aI _ f σ σ' r h1) (vx_cwSW 2 hts (gAS aM_L_133 aT_L_close aN_L aC_L_close) rfl rfl rfl eL_close ⟨Nat.le_of_ble_eq_true rfl, Nat.le_of_ble_eq_true rfl⟩) rfl hl.1 rfl (Nat.le_of_ble_eq_true rfl) dL_law_804 ⟨by have := hc.1; omega, by have := hc.2; omega⟩ hPc hPm hS (fun H locs hPc hPm hS => ?_)
    refine lv_istore (lv' := [(5, .int 0), (0, .ref z), (1, .ref (a 0)), (2, .ref (b 0)), (3, .ref o), (4, .int x4)]) hx hb dL_law_807 hl (by decide) rfl (fun ls hl => ?_)
    refine lv_aload_n hx hb dL_law_809 rfl (lv_at hl 3 rfl) ?_
    refine lawM_i (σ := σ') (τ' := τ') (As := []) (rest := []) C (kX8_close l D y b t C.bI _ τ τ' r h2) (cwV 0 hts (gAV aM_L_136 aI_X8_close aS_X8_close aN_X8 aC_X8_close) rfl rfl rfl eX8_close ⟨Nat.le_of_ble_eq_true rfl, Nat.le_of_ble_eq_true rfl⟩) rfl hl.1 rfl (Nat.le_of_ble_eq_true rfl) dL_law_810 ⟨by have := hc.1; omega, by have := hc.2; omega⟩ hPc hPm hS (fun H locs hPc hPm hS => ?_)
    refine lv_istore (lv' := [(6, .int r), (5, .int 0), (0, .ref z), (1, .ref (a 0)), (2, .ref (b 0)), (3, .ref o), (4, .int x4)]) hx hb dL_law_813 hl (by decide) rfl (fun ls hl => ?_)
    refine lv_aload_n hx hb dL_law_815 rfl (lv_at hl 4 rfl) ?_
    refine lawM_i (σ := σ') (τ := τ') (τ' := τ') (As := []) (rest := []) C (kX8_thrown l D y b t C.bI _ τ' (τ'.1 0 0) rfl) (cwV 0 hts (gAV aM_L_91 aI_X8_thrown aS_X8_thrown aN_X8 aC_X8_thrown) rfl rfl rfl eX8_thrown ⟨Nat.le_of_ble_eq_true rfl, Nat.le_of_ble_eq_true rfl⟩) rfl hl.1 rfl (Nat.le_of_ble_eq_true rfl) dL_law_816 ⟨by have := hc.1; omega, by have := hc.2; omega⟩ hPc hPm hS (fun H locs hPc hPm hS => ?_)
    refine lv_iload hx hb dL_law_819 (lv_at hl 1 rfl) ?_
    refine lv_icmp_eq (tgt := 826) hx hb dL_law_821 (by decide) (fun _ => ?_) (fun c1 => absurd h3 c1)
    refine lv_iload hx hb dL_law_826 (lv_at hl 1 rfl) ?_
    refine lv_if_ne (tgt := 843) hx hb dL_law_828 (by decide) (fun c1 => absurd rfl c1) (fun _ => ?_)
    refine lv_aload_n hx hb dL_law_831 rfl (lv_at hl 5 rfl) ?_
    refine lv_iconst (v := 0) hx hb dL_law_832 (by decide) ?_
    refine va_lald (i := 0) hx hb C.2.2.1 hPc 37 2 rfl rfl (by intro h; rcases h with h | h <;> revert h <;> decide) dL_law_833 ?_
    have e0 : vp_updL f 0 r.toInt64 (0 : Int32).toNatClampNeg = r.toInt64 := pk_uLs
    rw [e0]
    refine lv_iload hx hb dL_law_834 (lv_at hl 0 rfl) ?_
    refine lv_i2l (v := r.toInt64) hx hb dL_law_836 rfl ?_
    refine W.lcmp hx hb dL_law_837 ?_
    rw [lcmp_same]
    refine lv_if_eq (tgt := 843) hx hb dL_law_838 (by decide) (fun _ => ?_) (fun c1 => absurd rfl c1)
    refine lv_goto (tgt := 1557) hx hb dL_law_843 (by decide) ?_
    refine W.widen (k := cells + 200) (n := slots + 1600) (by omega) (by omega) ?_
    exact next σ' τ' (vp_updL f 0 r.toInt64) _ _ _ hR' hPc hPm hS (lv_sub hl [2, 3, 4, 5, 6] rfl)
  · skip
    refine lv_aload_n hx hb dL_law_802 rfl (lv_at hl 1 rfl) ?_
    refine lv_aload_n hx hb dL_law_803 rfl (lv_at hl 3 rfl) ?_
    refine lawH (σ' := σ') (f' := f) (As := [.ref (a 0), .ref o]) (rest := []) C (xL_close_1 l C.2.2.2.2.2.1 D y a o t ts C.aI _ f σ σ' h1) (vx_cwSW 2 hts (gAS aM_L_133 aT_L_close aN_L aC_L_close) rfl rfl rfl eL_close ⟨Nat.le_of_ble_eq_true rfl, Nat.le_of_ble_eq_true rfl⟩) rfl hl.1 rfl (Nat.le_of_ble_eq_true rfl) dL_law_804 ⟨by have := hc.1; omega, by have := hc.2; omega⟩ hPc hPm hS (fun H locs hPc hPm hS => ?_)
    refine lv_istore (lv' := [(5, .int 1), (0, .ref z), (1, .ref (a 0)), (2, .ref (b 0)), (3, .ref o), (4, .int x4)]) hx hb dL_law_807 hl (by decide) rfl (fun ls hl => ?_)
    refine lv_aload_n hx hb dL_law_809 rfl (lv_at hl 3 rfl) ?_
    refine lawM_i (σ := σ') (τ' := τ') (As := []) (rest := []) C (kX8_close l D y b t C.bI _ τ τ' v h2) (cwV 0 hts (gAV aM_L_136 aI_X8_close aS_X8_close aN_X8 aC_X8_close) rfl rfl rfl eX8_close ⟨Nat.le_of_ble_eq_true rfl, Nat.le_of_ble_eq_true rfl⟩) rfl hl.1 rfl (Nat.le_of_ble_eq_true rfl) dL_law_810 ⟨by have := hc.1; omega, by have := hc.2; omega⟩ hPc hPm hS (fun H locs hPc hPm hS => ?_)
    refine lv_istore (lv' := [(6, .int v), (5, .int 1), (0, .ref z), (1, .ref (a 0)), (2, .ref (b 0)), (3, .ref o), (4, .int x4)]) hx hb dL_law_813 hl (by decide) rfl (fun ls hl => ?_)
    refine lv_aload_n hx hb dL_law_815 rfl (lv_at hl 4 rfl) ?_
    refine lawM_i (σ := σ') (τ := τ') (τ' := τ') (As := []) (rest := []) C (kX8_thrown l D y b t C.bI _ τ' (τ'.1 0 0) rfl) (cwV 0 hts (gAV aM_L_91 aI_X8_thrown aS_X8_thrown aN_X8 aC_X8_thrown) rfl rfl rfl eX8_thrown ⟨Nat.le_of_ble_eq_true rfl, Nat.le_of_ble_eq_true rfl⟩) rfl hl.1 rfl (Nat.le_of_ble_eq_true rfl) dL_law_816 ⟨by have := hc.1; omega, by have := hc.2; omega⟩ hPc hPm hS (fun H locs hPc hPm hS => ?_)
    refine lv_iload hx hb dL_law_819 (lv_at hl 1 rfl) ?_
    refine lv_icmp_eq (tgt := 826) hx hb dL_law_821 (by decide) (fun _ => ?_) (fun c1 => absurd h3 c1)
    refine lv_iload hx hb dL_law_826 (lv_at hl 1 rfl) ?_
    refine lv_if_ne (tgt := 843) hx hb dL_law_828 (by decide) (fun _ => ?_) (fun c1 => absurd c1 (by decide))
    refine lv_goto (tgt := 1557) hx hb dL_law_843 (by decide) ?_
    refine W.widen (k := cells + 200) (n := slots + 1600) (by omega) (by omega) ?_
    exact next σ' τ' (f) _ _ _ hR' hPc hPm hS (lv_sub hl [2, 3, 4, 5, 6] rfl)
set_option maxHeartbeats 4000000 in
set_option maxRecDepth 100000 in
theorem law_step {p : Program} {l : Launch} {e : Env} {s : State} {m : MethodId} {below : List Frame} {meth : Method} {c : Code} {D : va_G} {y : Nat → ClassId} {a b t ts : Nat → Nat} {o z L : Nat} {xs : Nat → Int32} (C : LX p l s m meth c D y a b t ts o z L xs) {Q : State → Prop} {cells slots : Nat} (hc : cells + 200 ≤ 601024 ∧ slots + 1600 ≤ 7293033) {x4 : Int32} (hin : ∀ d : Nat, d < 6 → vp_in (x4 + nI d) L) {σ τ : St} {f : Nat → Int64} {H : Heap} {locs : List Loc} {ls : Array Slot} (hR : RR σ τ) (hPc : va_P D vwCl (wO y a o f σ) H) (hPm : va_P D vwCl (wM y b τ) H) (hS : va_S (fun q => s.heap.size ≤ q) s.heap H locs) (hl : lv_has ls 9 [(0, .ref z), (1, .ref (a 0)), (2, .ref (b 0)), (3, .ref o), (4, .int x4)])
    (next : ∀ (σ τ : St) (f : Nat → Int64) (H : Heap) (locs : List Loc) (ls : Array Slot), RR σ τ → va_P D vwCl (wO y a o f σ) H → va_P D vwCl (wM y b τ) H → va_S (fun q => s.heap.size ≤ q) s.heap H locs → lv_has ls 9 [(0, .ref z), (1, .ref (a 0)), (2, .ref (b 0)), (3, .ref o), (4, .int x4)] → W p l e room_1 s m #[Value.ref z] below meth c H locs (cells + 200) (slots + 1600) Q (F0 m 1557 ls [])) : W p l e room_1 s m #[Value.ref z] below meth c H locs cells slots Q (F0 m 846 ls []) := by
  have hx := C.1.1
  have hb := C.1.2.1
  have hown := C.1.2.2.2.1
  have hts := C.1.2.2.2.2.1
  obtain ⟨p1, e1⟩ : ∃ q, q = xs (x4 + 1).toNatClampNeg := ⟨_, rfl⟩
  obtain ⟨p2, e2⟩ : ∃ q, q = xs (x4 + 2).toNatClampNeg := ⟨_, rfl⟩
  obtain ⟨p3, e3⟩ : ∃ q, q = xs (x4 + 3).toNatClampNeg := ⟨_, rfl⟩
  obtain ⟨p4, e4⟩ : ∃ q, q = xs (x4 + 4).toNatClampNeg := ⟨_, rfl⟩
  obtain ⟨p5, e5⟩ : ∃ q, q = xs (x4 + 5).toNatClampNeg := ⟨_, rfl⟩
  rcases P_step hR p1 p2 p3 p4 p5 with ⟨r, σ', τ', h1, h2, h3, hR'⟩ | ⟨v, σ', τ', h1, h2, h3, hR'⟩ | ⟨v, σ', τ', h1, h2, h3, hR'⟩ | ⟨v, σ', τ', h1, h2, h3, hR'⟩
  · skip
    refine lv_aload_n hx hb dL_law_846 rfl (lv_at hl 1 rfl) ?_
    refine argR C (n := 1) (v := 1) hS (lv_at hl 0 rfl) (lv_at hl 4 rfl) (by decide) (hin 1 (by omega)) e1 dL_law_847 dL_law_848 dL_law_850 dL_law_851 dL_law_852 ?_
    refine argR C (n := 2) (v := 2) hS (lv_at hl 0 rfl) (lv_at hl 4 rfl) (by decide) (hin 2 (by omega)) e2 dL_law_853 dL_law_854 dL_law_856 dL_law_857 dL_law_858 ?_
    refine argR C (n := 3) (v := 3) hS (lv_at hl 0 rfl) (lv_at hl 4 rfl) (by decide) (hin 3 (by omega)) e3 dL_law_859 dL_law_860 dL_law_862 dL_law_863 dL_law_864 ?_
    refine argR C (n := 4) (v := 4) hS (lv_at hl 0 rfl) (lv_at hl 4 rfl) (by decide) (hin 4 (by omega)) e4 dL_law_865 dL_law_866 dL_law_868 dL_law_869 dL_law_870 ?_
    refine argR C (n := 5) (v := 5) hS (lv_at hl 0 rfl) (lv_at hl 4 rfl) (by decide) (hin 5 (by omega)) e5 dL_law_871 dL_law_872 dL_law_874 dL_law_875 dL_law_876 ?_
    refine lv_aload_n hx hb dL_law_877 rfl (lv_at hl 3 rfl) ?_
    refine lawH (σ' := σ') (f' := vp_updL f 0 r.toInt64) (As := [.ref (a 0), .int p1, .int p2, .int p3, .int p4, .int p5, .ref o]) (rest := []) C (kL_step l D y a o t ts C.aI _ f σ σ' p1 p2 p3 p4 p5 r h1) (vx_cwSW 7 hts (gAS aM_L_137 aT_L_step aN_L aC_L_step) rfl rfl rfl eL_step ⟨Nat.le_of_ble_eq_true rfl, Nat.le_of_ble_eq_true rfl⟩) rfl hl.1 rfl (Nat.le_of_ble_eq_true rfl) dL_law_878 ⟨by have := hc.1; omega, by have := hc.2; omega⟩ hPc hPm hS (fun H locs hPc hPm hS => ?_)
    refine lv_istore (lv' := [(5, .int 0), (0, .ref z), (1, .ref (a 0)), (2, .ref (b 0)), (3, .ref o), (4, .int x4)]) hx hb dL_law_881 hl (by decide) rfl (fun ls hl => ?_)
    refine lv_aload_n hx hb dL_law_883 rfl (lv_at hl 3 rfl) ?_
    refine argR C (n := 1) (v := 1) hS (lv_at hl 1 rfl) (lv_at hl 5 rfl) (by decide) (hin 1 (by omega)) e1 dL_law_884 dL_law_885 dL_law_887 dL_law_888 dL_law_889 ?_
    refine argR C (n := 2) (v := 2) hS (lv_at hl 1 rfl) (lv_at hl 5 rfl) (by decide) (hin 2 (by omega)) e2 dL_law_890 dL_law_891 dL_law_893 dL_law_894 dL_law_895 ?_
    refine argR C (n := 3) (v := 3) hS (lv_at hl 1 rfl) (lv_at hl 5 rfl) (by decide) (hin 3 (by omega)) e3 dL_law_896 dL_law_897 dL_law_899 dL_law_900 dL_law_901 ?_
    refine argR C (n := 4) (v := 4) hS (lv_at hl 1 rfl) (lv_at hl 5 rfl) (by decide) (hin 4 (by omega)) e4 dL_law_902 dL_law_903 dL_law_905 dL_law_906 dL_law_907 ?_
    refine argR C (n := 5) (v := 5) hS (lv_at hl 1 rfl) (lv_at hl 5 rfl) (by decide) (hin 5 (by omega)) e5 dL_law_908 dL_law_909 dL_law_911 dL_law_912 dL_law_913 ?_
    refine lawM_i (σ := σ') (τ' := τ') (As := [.int p1, .int p2, .int p3, .int p4, .int p5]) (rest := []) C (kX8_step l D y b t C.bI _ τ τ' p1 p2 p3 p4 p5 r h2) (cwV 5 hts (gAV aM_L_139 aI_X8_step aS_X8_step aN_X8 aC_X8_step) rfl rfl rfl eX8_step ⟨Nat.le_of_ble_eq_true rfl, Nat.le_of_ble_eq_true rfl⟩) rfl hl.1 rfl (Nat.le_of_ble_eq_true rfl) dL_law_914 ⟨by have := hc.1; omega, by have := hc.2; omega⟩ hPc hPm hS (fun H locs hPc hPm hS => ?_)
    refine lv_istore (lv' := [(6, .int r), (5, .int 0), (0, .ref z), (1, .ref (a 0)), (2, .ref (b 0)), (3, .ref o), (4, .int x4)]) hx hb dL_law_917 hl (by decide) rfl (fun ls hl => ?_)
    refine lv_aload_n hx hb dL_law_919 rfl (lv_at hl 4 rfl) ?_
    refine lawM_i (σ := σ') (τ := τ') (τ' := τ') (As := []) (rest := []) C (kX8_thrown l D y b t C.bI _ τ' (τ'.1 0 0) rfl) (cwV 0 hts (gAV aM_L_91 aI_X8_thrown aS_X8_thrown aN_X8 aC_X8_thrown) rfl rfl rfl eX8_thrown ⟨Nat.le_of_ble_eq_true rfl, Nat.le_of_ble_eq_true rfl⟩) rfl hl.1 rfl (Nat.le_of_ble_eq_true rfl) dL_law_920 ⟨by have := hc.1; omega, by have := hc.2; omega⟩ hPc hPm hS (fun H locs hPc hPm hS => ?_)
    refine lv_iload hx hb dL_law_923 (lv_at hl 1 rfl) ?_
    refine lv_icmp_eq (tgt := 930) hx hb dL_law_925 (by decide) (fun _ => ?_) (fun c1 => absurd h3 c1)
    refine lv_iload hx hb dL_law_930 (lv_at hl 1 rfl) ?_
    refine lv_if_ne (tgt := 947) hx hb dL_law_932 (by decide) (fun c1 => absurd rfl c1) (fun _ => ?_)
    refine lv_aload_n hx hb dL_law_935 rfl (lv_at hl 5 rfl) ?_
    refine lv_iconst (v := 0) hx hb dL_law_936 (by decide) ?_
    refine va_lald (i := 0) hx hb C.2.2.1 hPc 37 2 rfl rfl (by intro h; rcases h with h | h <;> revert h <;> decide) dL_law_937 ?_
    have e0 : vp_updL f 0 r.toInt64 (0 : Int32).toNatClampNeg = r.toInt64 := pk_uLs
    rw [e0]
    refine lv_iload hx hb dL_law_938 (lv_at hl 0 rfl) ?_
    refine lv_i2l (v := r.toInt64) hx hb dL_law_940 rfl ?_
    refine W.lcmp hx hb dL_law_941 ?_
    rw [lcmp_same]
    refine lv_if_eq (tgt := 947) hx hb dL_law_942 (by decide) (fun _ => ?_) (fun c1 => absurd rfl c1)
    refine lv_goto (tgt := 1557) hx hb dL_law_947 (by decide) ?_
    refine W.widen (k := cells + 200) (n := slots + 1600) (by omega) (by omega) ?_
    exact next σ' τ' (vp_updL f 0 r.toInt64) _ _ _ hR' hPc hPm hS (lv_sub hl [2, 3, 4, 5, 6] rfl)
  · skip
    refine lv_aload_n hx hb dL_law_846 rfl (lv_at hl 1 rfl) ?_
    refine argR C (n := 1) (v := 1) hS (lv_at hl 0 rfl) (lv_at hl 4 rfl) (by decide) (hin 1 (by omega)) e1 dL_law_847 dL_law_848 dL_law_850 dL_law_851 dL_law_852 ?_
    refine argR C (n := 2) (v := 2) hS (lv_at hl 0 rfl) (lv_at hl 4 rfl) (by decide) (hin 2 (by omega)) e2 dL_law_853 dL_law_854 dL_law_856 dL_law_857 dL_law_858 ?_
    refine argR C (n := 3) (v := 3) hS (lv_at hl 0 rfl) (lv_at hl 4 rfl) (by decide) (hin 3 (by omega)) e3 dL_law_859 dL_law_860 dL_law_862 dL_law_863 dL_law_864 ?_
    refine argR C (n := 4) (v := 4) hS (lv_at hl 0 rfl) (lv_at hl 4 rfl) (by decide) (hin 4 (by omega)) e4 dL_law_865 dL_law_866 dL_law_868 dL_law_869 dL_law_870 ?_
    refine argR C (n := 5) (v := 5) hS (lv_at hl 0 rfl) (lv_at hl 4 rfl) (by decide) (hin 5 (by omega)) e5 dL_law_871 dL_law_872 dL_law_874 dL_law_875 dL_law_876 ?_
    refine lv_aload_n hx hb dL_law_877 rfl (lv_at hl 3 rfl) ?_
    refine lawH (σ' := σ') (f' := f) (As := [.ref (a 0), .int p1, .int p2, .int p3, .int p4, .int p5, .ref o]) (rest := []) C (xL_step_2 l C.2.2.2.2.2.1 D y a o t ts C.aI _ f σ σ' p1 p2 p3 p4 p5 h1) (vx_cwSW 7 hts (gAS aM_L_137 aT_L_step aN_L aC_L_step) rfl rfl rfl eL_step ⟨Nat.le_of_ble_eq_true rfl, Nat.le_of_ble_eq_true rfl⟩) rfl hl.1 rfl (Nat.le_of_ble_eq_true rfl) dL_law_878 ⟨by have := hc.1; omega, by have := hc.2; omega⟩ hPc hPm hS (fun H locs hPc hPm hS => ?_)
    refine lv_istore (lv' := [(5, .int 1), (0, .ref z), (1, .ref (a 0)), (2, .ref (b 0)), (3, .ref o), (4, .int x4)]) hx hb dL_law_881 hl (by decide) rfl (fun ls hl => ?_)
    refine lv_aload_n hx hb dL_law_883 rfl (lv_at hl 3 rfl) ?_
    refine argR C (n := 1) (v := 1) hS (lv_at hl 1 rfl) (lv_at hl 5 rfl) (by decide) (hin 1 (by omega)) e1 dL_law_884 dL_law_885 dL_law_887 dL_law_888 dL_law_889 ?_
    refine argR C (n := 2) (v := 2) hS (lv_at hl 1 rfl) (lv_at hl 5 rfl) (by decide) (hin 2 (by omega)) e2 dL_law_890 dL_law_891 dL_law_893 dL_law_894 dL_law_895 ?_
    refine argR C (n := 3) (v := 3) hS (lv_at hl 1 rfl) (lv_at hl 5 rfl) (by decide) (hin 3 (by omega)) e3 dL_law_896 dL_law_897 dL_law_899 dL_law_900 dL_law_901 ?_
    refine argR C (n := 4) (v := 4) hS (lv_at hl 1 rfl) (lv_at hl 5 rfl) (by decide) (hin 4 (by omega)) e4 dL_law_902 dL_law_903 dL_law_905 dL_law_906 dL_law_907 ?_
    refine argR C (n := 5) (v := 5) hS (lv_at hl 1 rfl) (lv_at hl 5 rfl) (by decide) (hin 5 (by omega)) e5 dL_law_908 dL_law_909 dL_law_911 dL_law_912 dL_law_913 ?_
    refine lawM_i (σ := σ') (τ' := τ') (As := [.int p1, .int p2, .int p3, .int p4, .int p5]) (rest := []) C (kX8_step l D y b t C.bI _ τ τ' p1 p2 p3 p4 p5 v h2) (cwV 5 hts (gAV aM_L_139 aI_X8_step aS_X8_step aN_X8 aC_X8_step) rfl rfl rfl eX8_step ⟨Nat.le_of_ble_eq_true rfl, Nat.le_of_ble_eq_true rfl⟩) rfl hl.1 rfl (Nat.le_of_ble_eq_true rfl) dL_law_914 ⟨by have := hc.1; omega, by have := hc.2; omega⟩ hPc hPm hS (fun H locs hPc hPm hS => ?_)
    refine lv_istore (lv' := [(6, .int v), (5, .int 1), (0, .ref z), (1, .ref (a 0)), (2, .ref (b 0)), (3, .ref o), (4, .int x4)]) hx hb dL_law_917 hl (by decide) rfl (fun ls hl => ?_)
    refine lv_aload_n hx hb dL_law_919 rfl (lv_at hl 4 rfl) ?_
    refine lawM_i (σ := σ') (τ := τ') (τ' := τ') (As := []) (rest := []) C (kX8_thrown l D y b t C.bI _ τ' (τ'.1 0 0) rfl) (cwV 0 hts (gAV aM_L_91 aI_X8_thrown aS_X8_thrown aN_X8 aC_X8_thrown) rfl rfl rfl eX8_thrown ⟨Nat.le_of_ble_eq_true rfl, Nat.le_of_ble_eq_true rfl⟩) rfl hl.1 rfl (Nat.le_of_ble_eq_true rfl) dL_law_920 ⟨by have := hc.1; omega, by have := hc.2; omega⟩ hPc hPm hS (fun H locs hPc hPm hS => ?_)
    refine lv_iload hx hb dL_law_923 (lv_at hl 1 rfl) ?_
    refine lv_icmp_eq (tgt := 930) hx hb dL_law_925 (by decide) (fun _ => ?_) (fun c1 => absurd h3 c1)
    refine lv_iload hx hb dL_law_930 (lv_at hl 1 rfl) ?_
    refine lv_if_ne (tgt := 947) hx hb dL_law_932 (by decide) (fun _ => ?_) (fun c1 => absurd c1 (by decide))
    refine lv_goto (tgt := 1557) hx hb dL_law_947 (by decide) ?_
    refine W.widen (k := cells + 200) (n := slots + 1600) (by omega) (by omega) ?_
    exact next σ' τ' (f) _ _ _ hR' hPc hPm hS (lv_sub hl [2, 3, 4, 5, 6] rfl)
  · skip
    refine lv_aload_n hx hb dL_law_846 rfl (lv_at hl 1 rfl) ?_
    refine argR C (n := 1) (v := 1) hS (lv_at hl 0 rfl) (lv_at hl 4 rfl) (by decide) (hin 1 (by omega)) e1 dL_law_847 dL_law_848 dL_law_850 dL_law_851 dL_law_852 ?_
    refine argR C (n := 2) (v := 2) hS (lv_at hl 0 rfl) (lv_at hl 4 rfl) (by decide) (hin 2 (by omega)) e2 dL_law_853 dL_law_854 dL_law_856 dL_law_857 dL_law_858 ?_
    refine argR C (n := 3) (v := 3) hS (lv_at hl 0 rfl) (lv_at hl 4 rfl) (by decide) (hin 3 (by omega)) e3 dL_law_859 dL_law_860 dL_law_862 dL_law_863 dL_law_864 ?_
    refine argR C (n := 4) (v := 4) hS (lv_at hl 0 rfl) (lv_at hl 4 rfl) (by decide) (hin 4 (by omega)) e4 dL_law_865 dL_law_866 dL_law_868 dL_law_869 dL_law_870 ?_
    refine argR C (n := 5) (v := 5) hS (lv_at hl 0 rfl) (lv_at hl 4 rfl) (by decide) (hin 5 (by omega)) e5 dL_law_871 dL_law_872 dL_law_874 dL_law_875 dL_law_876 ?_
    refine lv_aload_n hx hb dL_law_877 rfl (lv_at hl 3 rfl) ?_
    refine lawH (σ' := σ') (f' := f) (As := [.ref (a 0), .int p1, .int p2, .int p3, .int p4, .int p5, .ref o]) (rest := []) C (xL_step_3 l C.2.2.2.2.2.1 D y a o t ts C.aI _ f σ σ' p1 p2 p3 p4 p5 h1) (vx_cwSW 7 hts (gAS aM_L_137 aT_L_step aN_L aC_L_step) rfl rfl rfl eL_step ⟨Nat.le_of_ble_eq_true rfl, Nat.le_of_ble_eq_true rfl⟩) rfl hl.1 rfl (Nat.le_of_ble_eq_true rfl) dL_law_878 ⟨by have := hc.1; omega, by have := hc.2; omega⟩ hPc hPm hS (fun H locs hPc hPm hS => ?_)
    refine lv_istore (lv' := [(5, .int 2), (0, .ref z), (1, .ref (a 0)), (2, .ref (b 0)), (3, .ref o), (4, .int x4)]) hx hb dL_law_881 hl (by decide) rfl (fun ls hl => ?_)
    refine lv_aload_n hx hb dL_law_883 rfl (lv_at hl 3 rfl) ?_
    refine argR C (n := 1) (v := 1) hS (lv_at hl 1 rfl) (lv_at hl 5 rfl) (by decide) (hin 1 (by omega)) e1 dL_law_884 dL_law_885 dL_law_887 dL_law_888 dL_law_889 ?_
    refine argR C (n := 2) (v := 2) hS (lv_at hl 1 rfl) (lv_at hl 5 rfl) (by decide) (hin 2 (by omega)) e2 dL_law_890 dL_law_891 dL_law_893 dL_law_894 dL_law_895 ?_
    refine argR C (n := 3) (v := 3) hS (lv_at hl 1 rfl) (lv_at hl 5 rfl) (by decide) (hin 3 (by omega)) e3 dL_law_896 dL_law_897 dL_law_899 dL_law_900 dL_law_901 ?_
    refine argR C (n := 4) (v := 4) hS (lv_at hl 1 rfl) (lv_at hl 5 rfl) (by decide) (hin 4 (by omega)) e4 dL_law_902 dL_law_903 dL_law_905 dL_law_906 dL_law_907 ?_
    refine argR C (n := 5) (v := 5) hS (lv_at hl 1 rfl) (lv_at hl 5 rfl) (by decide) (hin 5 (by omega)) e5 dL_law_908 dL_law_909 dL_law_911 dL_law_912 dL_law_913 ?_
    refine lawM_i (σ := σ') (τ' := τ') (As := [.int p1, .int p2, .int p3, .int p4, .int p5]) (rest := []) C (kX8_step l D y b t C.bI _ τ τ' p1 p2 p3 p4 p5 v h2) (cwV 5 hts (gAV aM_L_139 aI_X8_step aS_X8_step aN_X8 aC_X8_step) rfl rfl rfl eX8_step ⟨Nat.le_of_ble_eq_true rfl, Nat.le_of_ble_eq_true rfl⟩) rfl hl.1 rfl (Nat.le_of_ble_eq_true rfl) dL_law_914 ⟨by have := hc.1; omega, by have := hc.2; omega⟩ hPc hPm hS (fun H locs hPc hPm hS => ?_)
    refine lv_istore (lv' := [(6, .int v), (5, .int 2), (0, .ref z), (1, .ref (a 0)), (2, .ref (b 0)), (3, .ref o), (4, .int x4)]) hx hb dL_law_917 hl (by decide) rfl (fun ls hl => ?_)
    refine lv_aload_n hx hb dL_law_919 rfl (lv_at hl 4 rfl) ?_
    refine lawM_i (σ := σ') (τ := τ') (τ' := τ') (As := []) (rest := []) C (kX8_thrown l D y b t C.bI _ τ' (τ'.1 0 0) rfl) (cwV 0 hts (gAV aM_L_91 aI_X8_thrown aS_X8_thrown aN_X8 aC_X8_thrown) rfl rfl rfl eX8_thrown ⟨Nat.le_of_ble_eq_true rfl, Nat.le_of_ble_eq_true rfl⟩) rfl hl.1 rfl (Nat.le_of_ble_eq_true rfl) dL_law_920 ⟨by have := hc.1; omega, by have := hc.2; omega⟩ hPc hPm hS (fun H locs hPc hPm hS => ?_)
    refine lv_iload hx hb dL_law_923 (lv_at hl 1 rfl) ?_
    refine lv_icmp_eq (tgt := 930) hx hb dL_law_925 (by decide) (fun _ => ?_) (fun c1 => absurd h3 c1)
    refine lv_iload hx hb dL_law_930 (lv_at hl 1 rfl) ?_
    refine lv_if_ne (tgt := 947) hx hb dL_law_932 (by decide) (fun _ => ?_) (fun c1 => absurd c1 (by decide))
    refine lv_goto (tgt := 1557) hx hb dL_law_947 (by decide) ?_
    refine W.widen (k := cells + 200) (n := slots + 1600) (by omega) (by omega) ?_
    exact next σ' τ' (f) _ _ _ hR' hPc hPm hS (lv_sub hl [2, 3, 4, 5, 6] rfl)
  · skip
    refine lv_aload_n hx hb dL_law_846 rfl (lv_at hl 1 rfl) ?_
    refine argR C (n := 1) (v := 1) hS (lv_at hl 0 rfl) (lv_at hl 4 rfl) (by decide) (hin 1 (by omega)) e1 dL_law_847 dL_law_848 dL_law_850 dL_law_851 dL_law_852 ?_
    refine argR C (n := 2) (v := 2) hS (lv_at hl 0 rfl) (lv_at hl 4 rfl) (by decide) (hin 2 (by omega)) e2 dL_law_853 dL_law_854 dL_law_856 dL_law_857 dL_law_858 ?_
    refine argR C (n := 3) (v := 3) hS (lv_at hl 0 rfl) (lv_at hl 4 rfl) (by decide) (hin 3 (by omega)) e3 dL_law_859 dL_law_860 dL_law_862 dL_law_863 dL_law_864 ?_
    refine argR C (n := 4) (v := 4) hS (lv_at hl 0 rfl) (lv_at hl 4 rfl) (by decide) (hin 4 (by omega)) e4 dL_law_865 dL_law_866 dL_law_868 dL_law_869 dL_law_870 ?_
    refine argR C (n := 5) (v := 5) hS (lv_at hl 0 rfl) (lv_at hl 4 rfl) (by decide) (hin 5 (by omega)) e5 dL_law_871 dL_law_872 dL_law_874 dL_law_875 dL_law_876 ?_
    refine lv_aload_n hx hb dL_law_877 rfl (lv_at hl 3 rfl) ?_
    refine lawH (σ' := σ') (f' := f) (As := [.ref (a 0), .int p1, .int p2, .int p3, .int p4, .int p5, .ref o]) (rest := []) C (xL_step_1 l C.2.2.2.2.2.1 D y a o t ts C.aI _ f σ σ' p1 p2 p3 p4 p5 h1) (vx_cwSW 7 hts (gAS aM_L_137 aT_L_step aN_L aC_L_step) rfl rfl rfl eL_step ⟨Nat.le_of_ble_eq_true rfl, Nat.le_of_ble_eq_true rfl⟩) rfl hl.1 rfl (Nat.le_of_ble_eq_true rfl) dL_law_878 ⟨by have := hc.1; omega, by have := hc.2; omega⟩ hPc hPm hS (fun H locs hPc hPm hS => ?_)
    refine lv_istore (lv' := [(5, .int 3), (0, .ref z), (1, .ref (a 0)), (2, .ref (b 0)), (3, .ref o), (4, .int x4)]) hx hb dL_law_881 hl (by decide) rfl (fun ls hl => ?_)
    refine lv_aload_n hx hb dL_law_883 rfl (lv_at hl 3 rfl) ?_
    refine argR C (n := 1) (v := 1) hS (lv_at hl 1 rfl) (lv_at hl 5 rfl) (by decide) (hin 1 (by omega)) e1 dL_law_884 dL_law_885 dL_law_887 dL_law_888 dL_law_889 ?_
    refine argR C (n := 2) (v := 2) hS (lv_at hl 1 rfl) (lv_at hl 5 rfl) (by decide) (hin 2 (by omega)) e2 dL_law_890 dL_law_891 dL_law_893 dL_law_894 dL_law_895 ?_
    refine argR C (n := 3) (v := 3) hS (lv_at hl 1 rfl) (lv_at hl 5 rfl) (by decide) (hin 3 (by omega)) e3 dL_law_896 dL_law_897 dL_law_899 dL_law_900 dL_law_901 ?_
    refine argR C (n := 4) (v := 4) hS (lv_at hl 1 rfl) (lv_at hl 5 rfl) (by decide) (hin 4 (by omega)) e4 dL_law_902 dL_law_903 dL_law_905 dL_law_906 dL_law_907 ?_
    refine argR C (n := 5) (v := 5) hS (lv_at hl 1 rfl) (lv_at hl 5 rfl) (by decide) (hin 5 (by omega)) e5 dL_law_908 dL_law_909 dL_law_911 dL_law_912 dL_law_913 ?_
    refine lawM_i (σ := σ') (τ' := τ') (As := [.int p1, .int p2, .int p3, .int p4, .int p5]) (rest := []) C (kX8_step l D y b t C.bI _ τ τ' p1 p2 p3 p4 p5 v h2) (cwV 5 hts (gAV aM_L_139 aI_X8_step aS_X8_step aN_X8 aC_X8_step) rfl rfl rfl eX8_step ⟨Nat.le_of_ble_eq_true rfl, Nat.le_of_ble_eq_true rfl⟩) rfl hl.1 rfl (Nat.le_of_ble_eq_true rfl) dL_law_914 ⟨by have := hc.1; omega, by have := hc.2; omega⟩ hPc hPm hS (fun H locs hPc hPm hS => ?_)
    refine lv_istore (lv' := [(6, .int v), (5, .int 3), (0, .ref z), (1, .ref (a 0)), (2, .ref (b 0)), (3, .ref o), (4, .int x4)]) hx hb dL_law_917 hl (by decide) rfl (fun ls hl => ?_)
    refine lv_aload_n hx hb dL_law_919 rfl (lv_at hl 4 rfl) ?_
    refine lawM_i (σ := σ') (τ := τ') (τ' := τ') (As := []) (rest := []) C (kX8_thrown l D y b t C.bI _ τ' (τ'.1 0 0) rfl) (cwV 0 hts (gAV aM_L_91 aI_X8_thrown aS_X8_thrown aN_X8 aC_X8_thrown) rfl rfl rfl eX8_thrown ⟨Nat.le_of_ble_eq_true rfl, Nat.le_of_ble_eq_true rfl⟩) rfl hl.1 rfl (Nat.le_of_ble_eq_true rfl) dL_law_920 ⟨by have := hc.1; omega, by have := hc.2; omega⟩ hPc hPm hS (fun H locs hPc hPm hS => ?_)
    refine lv_iload hx hb dL_law_923 (lv_at hl 1 rfl) ?_
    refine lv_icmp_eq (tgt := 930) hx hb dL_law_925 (by decide) (fun _ => ?_) (fun c1 => absurd h3 c1)
    refine lv_iload hx hb dL_law_930 (lv_at hl 1 rfl) ?_
    refine lv_if_ne (tgt := 947) hx hb dL_law_932 (by decide) (fun _ => ?_) (fun c1 => absurd c1 (by decide))
    refine lv_goto (tgt := 1557) hx hb dL_law_947 (by decide) ?_
    refine W.widen (k := cells + 200) (n := slots + 1600) (by omega) (by omega) ?_
    exact next σ' τ' (f) _ _ _ hR' hPc hPm hS (lv_sub hl [2, 3, 4, 5, 6] rfl)
set_option maxHeartbeats 4000000 in
set_option maxRecDepth 100000 in
theorem law_undo {p : Program} {l : Launch} {e : Env} {s : State} {m : MethodId} {below : List Frame} {meth : Method} {c : Code} {D : va_G} {y : Nat → ClassId} {a b t ts : Nat → Nat} {o z L : Nat} {xs : Nat → Int32} (C : LX p l s m meth c D y a b t ts o z L xs) {Q : State → Prop} {cells slots : Nat} (hc : cells + 200 ≤ 601024 ∧ slots + 1600 ≤ 7293033) {x4 : Int32} {σ τ : St} {f : Nat → Int64} {H : Heap} {locs : List Loc} {ls : Array Slot} (hR : RR σ τ) (hPc : va_P D vwCl (wO y a o f σ) H) (hPm : va_P D vwCl (wM y b τ) H) (hS : va_S (fun q => s.heap.size ≤ q) s.heap H locs) (hl : lv_has ls 9 [(0, .ref z), (1, .ref (a 0)), (2, .ref (b 0)), (3, .ref o), (4, .int x4)])
    (next : ∀ (σ τ : St) (f : Nat → Int64) (H : Heap) (locs : List Loc) (ls : Array Slot), RR σ τ → va_P D vwCl (wO y a o f σ) H → va_P D vwCl (wM y b τ) H → va_S (fun q => s.heap.size ≤ q) s.heap H locs → lv_has ls 9 [(0, .ref z), (1, .ref (a 0)), (2, .ref (b 0)), (3, .ref o), (4, .int x4)] → W p l e room_1 s m #[Value.ref z] below meth c H locs (cells + 200) (slots + 1600) Q (F0 m 1557 ls [])) : W p l e room_1 s m #[Value.ref z] below meth c H locs cells slots Q (F0 m 950 ls []) := by
  have hx := C.1.1
  have hb := C.1.2.1
  have hown := C.1.2.2.2.1
  have hts := C.1.2.2.2.2.1
  rcases P_undo hR with ⟨r, σ', τ', h1, h2, h3, hR'⟩ | ⟨v, σ', τ', h1, h2, h3, hR'⟩
  · skip
    refine lv_aload_n hx hb dL_law_950 rfl (lv_at hl 1 rfl) ?_
    refine lv_aload_n hx hb dL_law_951 rfl (lv_at hl 3 rfl) ?_
    refine lawH (σ' := σ') (f' := vp_updL f 0 r.toInt64) (As := [.ref (a 0), .ref o]) (rest := []) C (kL_undo l D y a o t ts C.aI _ f σ σ' r h1) (vx_cwSW 2 hts (gAS aM_L_140 aT_L_undo aN_L aC_L_undo) rfl rfl rfl eL_undo ⟨Nat.le_of_ble_eq_true rfl, Nat.le_of_ble_eq_true rfl⟩) rfl hl.1 rfl (Nat.le_of_ble_eq_true rfl) dL_law_952 ⟨by have := hc.1; omega, by have := hc.2; omega⟩ hPc hPm hS (fun H locs hPc hPm hS => ?_)
    refine lv_istore (lv' := [(5, .int 0), (0, .ref z), (1, .ref (a 0)), (2, .ref (b 0)), (3, .ref o), (4, .int x4)]) hx hb dL_law_955 hl (by decide) rfl (fun ls hl => ?_)
    refine lv_aload_n hx hb dL_law_957 rfl (lv_at hl 3 rfl) ?_
    refine lawM_i (σ := σ') (τ' := τ') (As := []) (rest := []) C (kX8_undo l D y b t C.bI _ τ τ' r h2) (cwV 0 hts (gAV aM_L_142 aI_X8_undo aS_X8_undo aN_X8 aC_X8_undo) rfl rfl rfl eX8_undo ⟨Nat.le_of_ble_eq_true rfl, Nat.le_of_ble_eq_true rfl⟩) rfl hl.1 rfl (Nat.le_of_ble_eq_true rfl) dL_law_958 ⟨by have := hc.1; omega, by have := hc.2; omega⟩ hPc hPm hS (fun H locs hPc hPm hS => ?_)
    refine lv_istore (lv' := [(6, .int r), (5, .int 0), (0, .ref z), (1, .ref (a 0)), (2, .ref (b 0)), (3, .ref o), (4, .int x4)]) hx hb dL_law_961 hl (by decide) rfl (fun ls hl => ?_)
    refine lv_aload_n hx hb dL_law_963 rfl (lv_at hl 4 rfl) ?_
    refine lawM_i (σ := σ') (τ := τ') (τ' := τ') (As := []) (rest := []) C (kX8_thrown l D y b t C.bI _ τ' (τ'.1 0 0) rfl) (cwV 0 hts (gAV aM_L_91 aI_X8_thrown aS_X8_thrown aN_X8 aC_X8_thrown) rfl rfl rfl eX8_thrown ⟨Nat.le_of_ble_eq_true rfl, Nat.le_of_ble_eq_true rfl⟩) rfl hl.1 rfl (Nat.le_of_ble_eq_true rfl) dL_law_964 ⟨by have := hc.1; omega, by have := hc.2; omega⟩ hPc hPm hS (fun H locs hPc hPm hS => ?_)
    refine lv_iload hx hb dL_law_967 (lv_at hl 1 rfl) ?_
    refine lv_icmp_eq (tgt := 974) hx hb dL_law_969 (by decide) (fun _ => ?_) (fun c1 => absurd h3 c1)
    refine lv_iload hx hb dL_law_974 (lv_at hl 1 rfl) ?_
    refine lv_if_ne (tgt := 991) hx hb dL_law_976 (by decide) (fun c1 => absurd rfl c1) (fun _ => ?_)
    refine lv_aload_n hx hb dL_law_979 rfl (lv_at hl 5 rfl) ?_
    refine lv_iconst (v := 0) hx hb dL_law_980 (by decide) ?_
    refine va_lald (i := 0) hx hb C.2.2.1 hPc 37 2 rfl rfl (by intro h; rcases h with h | h <;> revert h <;> decide) dL_law_981 ?_
    have e0 : vp_updL f 0 r.toInt64 (0 : Int32).toNatClampNeg = r.toInt64 := pk_uLs
    rw [e0]
    refine lv_iload hx hb dL_law_982 (lv_at hl 0 rfl) ?_
    refine lv_i2l (v := r.toInt64) hx hb dL_law_984 rfl ?_
    refine W.lcmp hx hb dL_law_985 ?_
    rw [lcmp_same]
    refine lv_if_eq (tgt := 991) hx hb dL_law_986 (by decide) (fun _ => ?_) (fun c1 => absurd rfl c1)
    refine lv_goto (tgt := 1557) hx hb dL_law_991 (by decide) ?_
    refine W.widen (k := cells + 200) (n := slots + 1600) (by omega) (by omega) ?_
    exact next σ' τ' (vp_updL f 0 r.toInt64) _ _ _ hR' hPc hPm hS (lv_sub hl [2, 3, 4, 5, 6] rfl)
  · skip
    refine lv_aload_n hx hb dL_law_950 rfl (lv_at hl 1 rfl) ?_
    refine lv_aload_n hx hb dL_law_951 rfl (lv_at hl 3 rfl) ?_
    refine lawH (σ' := σ') (f' := f) (As := [.ref (a 0), .ref o]) (rest := []) C (xL_undo_1 l C.2.2.2.2.2.1 D y a o t ts C.aI _ f σ σ' h1) (vx_cwSW 2 hts (gAS aM_L_140 aT_L_undo aN_L aC_L_undo) rfl rfl rfl eL_undo ⟨Nat.le_of_ble_eq_true rfl, Nat.le_of_ble_eq_true rfl⟩) rfl hl.1 rfl (Nat.le_of_ble_eq_true rfl) dL_law_952 ⟨by have := hc.1; omega, by have := hc.2; omega⟩ hPc hPm hS (fun H locs hPc hPm hS => ?_)
    refine lv_istore (lv' := [(5, .int 1), (0, .ref z), (1, .ref (a 0)), (2, .ref (b 0)), (3, .ref o), (4, .int x4)]) hx hb dL_law_955 hl (by decide) rfl (fun ls hl => ?_)
    refine lv_aload_n hx hb dL_law_957 rfl (lv_at hl 3 rfl) ?_
    refine lawM_i (σ := σ') (τ' := τ') (As := []) (rest := []) C (kX8_undo l D y b t C.bI _ τ τ' v h2) (cwV 0 hts (gAV aM_L_142 aI_X8_undo aS_X8_undo aN_X8 aC_X8_undo) rfl rfl rfl eX8_undo ⟨Nat.le_of_ble_eq_true rfl, Nat.le_of_ble_eq_true rfl⟩) rfl hl.1 rfl (Nat.le_of_ble_eq_true rfl) dL_law_958 ⟨by have := hc.1; omega, by have := hc.2; omega⟩ hPc hPm hS (fun H locs hPc hPm hS => ?_)
    refine lv_istore (lv' := [(6, .int v), (5, .int 1), (0, .ref z), (1, .ref (a 0)), (2, .ref (b 0)), (3, .ref o), (4, .int x4)]) hx hb dL_law_961 hl (by decide) rfl (fun ls hl => ?_)
    refine lv_aload_n hx hb dL_law_963 rfl (lv_at hl 4 rfl) ?_
    refine lawM_i (σ := σ') (τ := τ') (τ' := τ') (As := []) (rest := []) C (kX8_thrown l D y b t C.bI _ τ' (τ'.1 0 0) rfl) (cwV 0 hts (gAV aM_L_91 aI_X8_thrown aS_X8_thrown aN_X8 aC_X8_thrown) rfl rfl rfl eX8_thrown ⟨Nat.le_of_ble_eq_true rfl, Nat.le_of_ble_eq_true rfl⟩) rfl hl.1 rfl (Nat.le_of_ble_eq_true rfl) dL_law_964 ⟨by have := hc.1; omega, by have := hc.2; omega⟩ hPc hPm hS (fun H locs hPc hPm hS => ?_)
    refine lv_iload hx hb dL_law_967 (lv_at hl 1 rfl) ?_
    refine lv_icmp_eq (tgt := 974) hx hb dL_law_969 (by decide) (fun _ => ?_) (fun c1 => absurd h3 c1)
    refine lv_iload hx hb dL_law_974 (lv_at hl 1 rfl) ?_
    refine lv_if_ne (tgt := 991) hx hb dL_law_976 (by decide) (fun _ => ?_) (fun c1 => absurd c1 (by decide))
    refine lv_goto (tgt := 1557) hx hb dL_law_991 (by decide) ?_
    refine W.widen (k := cells + 200) (n := slots + 1600) (by omega) (by omega) ?_
    exact next σ' τ' (f) _ _ _ hR' hPc hPm hS (lv_sub hl [2, 3, 4, 5, 6] rfl)
set_option maxHeartbeats 4000000 in
set_option maxRecDepth 100000 in
theorem law_count {p : Program} {l : Launch} {e : Env} {s : State} {m : MethodId} {below : List Frame} {meth : Method} {c : Code} {D : va_G} {y : Nat → ClassId} {a b t ts : Nat → Nat} {o z L : Nat} {xs : Nat → Int32} (C : LX p l s m meth c D y a b t ts o z L xs) {Q : State → Prop} {cells slots : Nat} (hc : cells + 200 ≤ 601024 ∧ slots + 1600 ≤ 7293033) {x4 : Int32} (hin : ∀ d : Nat, d < 6 → vp_in (x4 + nI d) L) {σ τ : St} {f : Nat → Int64} {H : Heap} {locs : List Loc} {ls : Array Slot} (hR : RR σ τ) (hPc : va_P D vwCl (wO y a o f σ) H) (hPm : va_P D vwCl (wM y b τ) H) (hS : va_S (fun q => s.heap.size ≤ q) s.heap H locs) (hl : lv_has ls 9 [(0, .ref z), (1, .ref (a 0)), (2, .ref (b 0)), (3, .ref o), (4, .int x4)])
    (next : ∀ (σ τ : St) (f : Nat → Int64) (H : Heap) (locs : List Loc) (ls : Array Slot), RR σ τ → va_P D vwCl (wO y a o f σ) H → va_P D vwCl (wM y b τ) H → va_S (fun q => s.heap.size ≤ q) s.heap H locs → lv_has ls 9 [(0, .ref z), (1, .ref (a 0)), (2, .ref (b 0)), (3, .ref o), (4, .int x4)] → W p l e room_1 s m #[Value.ref z] below meth c H locs (cells + 200) (slots + 1600) Q (F0 m 1557 ls [])) : W p l e room_1 s m #[Value.ref z] below meth c H locs cells slots Q (F0 m 994 ls []) := by
  have hx := C.1.1
  have hb := C.1.2.1
  have hown := C.1.2.2.2.1
  have hts := C.1.2.2.2.2.1
  obtain ⟨p1, e1⟩ : ∃ q, q = xs (x4 + 1).toNatClampNeg := ⟨_, rfl⟩
  rcases P_count hR p1 with ⟨r, σ', τ', h1, h2, h3, hR'⟩ | ⟨v, σ', τ', h1, h2, h3, hR'⟩
  · skip
    refine lv_aload_n hx hb dL_law_994 rfl (lv_at hl 1 rfl) ?_
    refine argR C (n := 1) (v := 1) hS (lv_at hl 0 rfl) (lv_at hl 4 rfl) (by decide) (hin 1 (by omega)) e1 dL_law_995 dL_law_996 dL_law_998 dL_law_999 dL_law_1000 ?_
    refine lv_aload_n hx hb dL_law_1001 rfl (lv_at hl 3 rfl) ?_
    refine lawH (σ' := σ') (f' := vp_updL f 0 r.toInt64) (As := [.ref (a 0), .int p1, .ref o]) (rest := []) C (kL_count l D y a o t ts C.aI _ f σ σ' p1 r h1) (vx_cwSW 3 hts (gAS aM_L_143 aT_L_count aN_L aC_L_count) rfl rfl rfl eL_count ⟨Nat.le_of_ble_eq_true rfl, Nat.le_of_ble_eq_true rfl⟩) rfl hl.1 rfl (Nat.le_of_ble_eq_true rfl) dL_law_1002 ⟨by have := hc.1; omega, by have := hc.2; omega⟩ hPc hPm hS (fun H locs hPc hPm hS => ?_)
    refine lv_istore (lv' := [(5, .int 0), (0, .ref z), (1, .ref (a 0)), (2, .ref (b 0)), (3, .ref o), (4, .int x4)]) hx hb dL_law_1005 hl (by decide) rfl (fun ls hl => ?_)
    refine lv_aload_n hx hb dL_law_1007 rfl (lv_at hl 3 rfl) ?_
    refine argR C (n := 1) (v := 1) hS (lv_at hl 1 rfl) (lv_at hl 5 rfl) (by decide) (hin 1 (by omega)) e1 dL_law_1008 dL_law_1009 dL_law_1011 dL_law_1012 dL_law_1013 ?_
    refine lawM_i (σ := σ') (τ' := τ') (As := [.int p1]) (rest := []) C (kX8_count l D y b t C.bI _ τ τ' p1 r h2) (cwV 1 hts (gAV aM_L_145 aI_X8_count aS_X8_count aN_X8 aC_X8_count) rfl rfl rfl eX8_count ⟨Nat.le_of_ble_eq_true rfl, Nat.le_of_ble_eq_true rfl⟩) rfl hl.1 rfl (Nat.le_of_ble_eq_true rfl) dL_law_1014 ⟨by have := hc.1; omega, by have := hc.2; omega⟩ hPc hPm hS (fun H locs hPc hPm hS => ?_)
    refine lv_istore (lv' := [(6, .int r), (5, .int 0), (0, .ref z), (1, .ref (a 0)), (2, .ref (b 0)), (3, .ref o), (4, .int x4)]) hx hb dL_law_1017 hl (by decide) rfl (fun ls hl => ?_)
    refine lv_aload_n hx hb dL_law_1019 rfl (lv_at hl 4 rfl) ?_
    refine lawM_i (σ := σ') (τ := τ') (τ' := τ') (As := []) (rest := []) C (kX8_thrown l D y b t C.bI _ τ' (τ'.1 0 0) rfl) (cwV 0 hts (gAV aM_L_91 aI_X8_thrown aS_X8_thrown aN_X8 aC_X8_thrown) rfl rfl rfl eX8_thrown ⟨Nat.le_of_ble_eq_true rfl, Nat.le_of_ble_eq_true rfl⟩) rfl hl.1 rfl (Nat.le_of_ble_eq_true rfl) dL_law_1020 ⟨by have := hc.1; omega, by have := hc.2; omega⟩ hPc hPm hS (fun H locs hPc hPm hS => ?_)
    refine lv_iload hx hb dL_law_1023 (lv_at hl 1 rfl) ?_
    refine lv_icmp_eq (tgt := 1030) hx hb dL_law_1025 (by decide) (fun _ => ?_) (fun c1 => absurd h3 c1)
    refine lv_iload hx hb dL_law_1030 (lv_at hl 1 rfl) ?_
    refine lv_if_ne (tgt := 1047) hx hb dL_law_1032 (by decide) (fun c1 => absurd rfl c1) (fun _ => ?_)
    refine lv_aload_n hx hb dL_law_1035 rfl (lv_at hl 5 rfl) ?_
    refine lv_iconst (v := 0) hx hb dL_law_1036 (by decide) ?_
    refine va_lald (i := 0) hx hb C.2.2.1 hPc 37 2 rfl rfl (by intro h; rcases h with h | h <;> revert h <;> decide) dL_law_1037 ?_
    have e0 : vp_updL f 0 r.toInt64 (0 : Int32).toNatClampNeg = r.toInt64 := pk_uLs
    rw [e0]
    refine lv_iload hx hb dL_law_1038 (lv_at hl 0 rfl) ?_
    refine lv_i2l (v := r.toInt64) hx hb dL_law_1040 rfl ?_
    refine W.lcmp hx hb dL_law_1041 ?_
    rw [lcmp_same]
    refine lv_if_eq (tgt := 1047) hx hb dL_law_1042 (by decide) (fun _ => ?_) (fun c1 => absurd rfl c1)
    refine lv_goto (tgt := 1557) hx hb dL_law_1047 (by decide) ?_
    refine W.widen (k := cells + 200) (n := slots + 1600) (by omega) (by omega) ?_
    exact next σ' τ' (vp_updL f 0 r.toInt64) _ _ _ hR' hPc hPm hS (lv_sub hl [2, 3, 4, 5, 6] rfl)
  · skip
    refine lv_aload_n hx hb dL_law_994 rfl (lv_at hl 1 rfl) ?_
    refine argR C (n := 1) (v := 1) hS (lv_at hl 0 rfl) (lv_at hl 4 rfl) (by decide) (hin 1 (by omega)) e1 dL_law_995 dL_law_996 dL_law_998 dL_law_999 dL_law_1000 ?_
    refine lv_aload_n hx hb dL_law_1001 rfl (lv_at hl 3 rfl) ?_
    refine lawH (σ' := σ') (f' := f) (As := [.ref (a 0), .int p1, .ref o]) (rest := []) C (xL_count_3 l C.2.2.2.2.2.1 D y a o t ts C.aI _ f σ σ' p1 h1) (vx_cwSW 3 hts (gAS aM_L_143 aT_L_count aN_L aC_L_count) rfl rfl rfl eL_count ⟨Nat.le_of_ble_eq_true rfl, Nat.le_of_ble_eq_true rfl⟩) rfl hl.1 rfl (Nat.le_of_ble_eq_true rfl) dL_law_1002 ⟨by have := hc.1; omega, by have := hc.2; omega⟩ hPc hPm hS (fun H locs hPc hPm hS => ?_)
    refine lv_istore (lv' := [(5, .int 1), (0, .ref z), (1, .ref (a 0)), (2, .ref (b 0)), (3, .ref o), (4, .int x4)]) hx hb dL_law_1005 hl (by decide) rfl (fun ls hl => ?_)
    refine lv_aload_n hx hb dL_law_1007 rfl (lv_at hl 3 rfl) ?_
    refine argR C (n := 1) (v := 1) hS (lv_at hl 1 rfl) (lv_at hl 5 rfl) (by decide) (hin 1 (by omega)) e1 dL_law_1008 dL_law_1009 dL_law_1011 dL_law_1012 dL_law_1013 ?_
    refine lawM_i (σ := σ') (τ' := τ') (As := [.int p1]) (rest := []) C (kX8_count l D y b t C.bI _ τ τ' p1 v h2) (cwV 1 hts (gAV aM_L_145 aI_X8_count aS_X8_count aN_X8 aC_X8_count) rfl rfl rfl eX8_count ⟨Nat.le_of_ble_eq_true rfl, Nat.le_of_ble_eq_true rfl⟩) rfl hl.1 rfl (Nat.le_of_ble_eq_true rfl) dL_law_1014 ⟨by have := hc.1; omega, by have := hc.2; omega⟩ hPc hPm hS (fun H locs hPc hPm hS => ?_)
    refine lv_istore (lv' := [(6, .int v), (5, .int 1), (0, .ref z), (1, .ref (a 0)), (2, .ref (b 0)), (3, .ref o), (4, .int x4)]) hx hb dL_law_1017 hl (by decide) rfl (fun ls hl => ?_)
    refine lv_aload_n hx hb dL_law_1019 rfl (lv_at hl 4 rfl) ?_
    refine lawM_i (σ := σ') (τ := τ') (τ' := τ') (As := []) (rest := []) C (kX8_thrown l D y b t C.bI _ τ' (τ'.1 0 0) rfl) (cwV 0 hts (gAV aM_L_91 aI_X8_thrown aS_X8_thrown aN_X8 aC_X8_thrown) rfl rfl rfl eX8_thrown ⟨Nat.le_of_ble_eq_true rfl, Nat.le_of_ble_eq_true rfl⟩) rfl hl.1 rfl (Nat.le_of_ble_eq_true rfl) dL_law_1020 ⟨by have := hc.1; omega, by have := hc.2; omega⟩ hPc hPm hS (fun H locs hPc hPm hS => ?_)
    refine lv_iload hx hb dL_law_1023 (lv_at hl 1 rfl) ?_
    refine lv_icmp_eq (tgt := 1030) hx hb dL_law_1025 (by decide) (fun _ => ?_) (fun c1 => absurd h3 c1)
    refine lv_iload hx hb dL_law_1030 (lv_at hl 1 rfl) ?_
    refine lv_if_ne (tgt := 1047) hx hb dL_law_1032 (by decide) (fun _ => ?_) (fun c1 => absurd c1 (by decide))
    refine lv_goto (tgt := 1557) hx hb dL_law_1047 (by decide) ?_
    refine W.widen (k := cells + 200) (n := slots + 1600) (by omega) (by omega) ?_
    exact next σ' τ' (f) _ _ _ hR' hPc hPm hS (lv_sub hl [2, 3, 4, 5, 6] rfl)
set_option maxHeartbeats 4000000 in
set_option maxRecDepth 100000 in
theorem law_line {p : Program} {l : Launch} {e : Env} {s : State} {m : MethodId} {below : List Frame} {meth : Method} {c : Code} {D : va_G} {y : Nat → ClassId} {a b t ts : Nat → Nat} {o z L : Nat} {xs : Nat → Int32} (C : LX p l s m meth c D y a b t ts o z L xs) {Q : State → Prop} {cells slots : Nat} (hc : cells + 200 ≤ 601024 ∧ slots + 1600 ≤ 7293033) {x4 : Int32} (hin : ∀ d : Nat, d < 6 → vp_in (x4 + nI d) L) {σ τ : St} {f : Nat → Int64} {H : Heap} {locs : List Loc} {ls : Array Slot} (hR : RR σ τ) (hPc : va_P D vwCl (wO y a o f σ) H) (hPm : va_P D vwCl (wM y b τ) H) (hS : va_S (fun q => s.heap.size ≤ q) s.heap H locs) (hl : lv_has ls 9 [(0, .ref z), (1, .ref (a 0)), (2, .ref (b 0)), (3, .ref o), (4, .int x4)])
    (next : ∀ (σ τ : St) (f : Nat → Int64) (H : Heap) (locs : List Loc) (ls : Array Slot), RR σ τ → va_P D vwCl (wO y a o f σ) H → va_P D vwCl (wM y b τ) H → va_S (fun q => s.heap.size ≤ q) s.heap H locs → lv_has ls 9 [(0, .ref z), (1, .ref (a 0)), (2, .ref (b 0)), (3, .ref o), (4, .int x4)] → W p l e room_1 s m #[Value.ref z] below meth c H locs (cells + 200) (slots + 1600) Q (F0 m 1557 ls [])) : W p l e room_1 s m #[Value.ref z] below meth c H locs cells slots Q (F0 m 1050 ls []) := by
  have hx := C.1.1
  have hb := C.1.2.1
  have hown := C.1.2.2.2.1
  have hts := C.1.2.2.2.2.1
  obtain ⟨p1, e1⟩ : ∃ q, q = xs (x4 + 1).toNatClampNeg := ⟨_, rfl⟩
  obtain ⟨p2, e2⟩ : ∃ q, q = xs (x4 + 2).toNatClampNeg := ⟨_, rfl⟩
  rcases P_line hR p1 p2 with ⟨r, σ', τ', h1, h2, h3, hR'⟩ | ⟨v, σ', τ', h1, h2, h3, hR'⟩
  · skip
    refine lv_aload_n hx hb dL_law_1050 rfl (lv_at hl 1 rfl) ?_
    refine argR C (n := 1) (v := 1) hS (lv_at hl 0 rfl) (lv_at hl 4 rfl) (by decide) (hin 1 (by omega)) e1 dL_law_1051 dL_law_1052 dL_law_1054 dL_law_1055 dL_law_1056 ?_
    refine argR C (n := 2) (v := 2) hS (lv_at hl 0 rfl) (lv_at hl 4 rfl) (by decide) (hin 2 (by omega)) e2 dL_law_1057 dL_law_1058 dL_law_1060 dL_law_1061 dL_law_1062 ?_
    refine lv_aload_n hx hb dL_law_1063 rfl (lv_at hl 3 rfl) ?_
    refine lawH (σ' := σ') (f' := vp_updL f 0 r.toInt64) (As := [.ref (a 0), .int p1, .int p2, .ref o]) (rest := []) C (kL_line l D y a o t ts C.aI _ f σ σ' p1 p2 r h1) (vx_cwSW 4 hts (gAS aM_L_146 aT_L_line aN_L aC_L_line) rfl rfl rfl eL_line ⟨Nat.le_of_ble_eq_true rfl, Nat.le_of_ble_eq_true rfl⟩) rfl hl.1 rfl (Nat.le_of_ble_eq_true rfl) dL_law_1064 ⟨by have := hc.1; omega, by have := hc.2; omega⟩ hPc hPm hS (fun H locs hPc hPm hS => ?_)
    refine lv_istore (lv' := [(5, .int 0), (0, .ref z), (1, .ref (a 0)), (2, .ref (b 0)), (3, .ref o), (4, .int x4)]) hx hb dL_law_1067 hl (by decide) rfl (fun ls hl => ?_)
    refine lv_aload_n hx hb dL_law_1069 rfl (lv_at hl 3 rfl) ?_
    refine argR C (n := 1) (v := 1) hS (lv_at hl 1 rfl) (lv_at hl 5 rfl) (by decide) (hin 1 (by omega)) e1 dL_law_1070 dL_law_1071 dL_law_1073 dL_law_1074 dL_law_1075 ?_
    refine argR C (n := 2) (v := 2) hS (lv_at hl 1 rfl) (lv_at hl 5 rfl) (by decide) (hin 2 (by omega)) e2 dL_law_1076 dL_law_1077 dL_law_1079 dL_law_1080 dL_law_1081 ?_
    refine lawM_i (σ := σ') (τ' := τ') (As := [.int p1, .int p2]) (rest := []) C (kX8_line l D y b t C.bI _ τ τ' p1 p2 r h2) (cwV 2 hts (gAV aM_L_148 aI_X8_line aS_X8_line aN_X8 aC_X8_line) rfl rfl rfl eX8_line ⟨Nat.le_of_ble_eq_true rfl, Nat.le_of_ble_eq_true rfl⟩) rfl hl.1 rfl (Nat.le_of_ble_eq_true rfl) dL_law_1082 ⟨by have := hc.1; omega, by have := hc.2; omega⟩ hPc hPm hS (fun H locs hPc hPm hS => ?_)
    refine lv_istore (lv' := [(6, .int r), (5, .int 0), (0, .ref z), (1, .ref (a 0)), (2, .ref (b 0)), (3, .ref o), (4, .int x4)]) hx hb dL_law_1085 hl (by decide) rfl (fun ls hl => ?_)
    refine lv_aload_n hx hb dL_law_1087 rfl (lv_at hl 4 rfl) ?_
    refine lawM_i (σ := σ') (τ := τ') (τ' := τ') (As := []) (rest := []) C (kX8_thrown l D y b t C.bI _ τ' (τ'.1 0 0) rfl) (cwV 0 hts (gAV aM_L_91 aI_X8_thrown aS_X8_thrown aN_X8 aC_X8_thrown) rfl rfl rfl eX8_thrown ⟨Nat.le_of_ble_eq_true rfl, Nat.le_of_ble_eq_true rfl⟩) rfl hl.1 rfl (Nat.le_of_ble_eq_true rfl) dL_law_1088 ⟨by have := hc.1; omega, by have := hc.2; omega⟩ hPc hPm hS (fun H locs hPc hPm hS => ?_)
    refine lv_iload hx hb dL_law_1091 (lv_at hl 1 rfl) ?_
    refine lv_icmp_eq (tgt := 1098) hx hb dL_law_1093 (by decide) (fun _ => ?_) (fun c1 => absurd h3 c1)
    refine lv_iload hx hb dL_law_1098 (lv_at hl 1 rfl) ?_
    refine lv_if_ne (tgt := 1115) hx hb dL_law_1100 (by decide) (fun c1 => absurd rfl c1) (fun _ => ?_)
    refine lv_aload_n hx hb dL_law_1103 rfl (lv_at hl 5 rfl) ?_
    refine lv_iconst (v := 0) hx hb dL_law_1104 (by decide) ?_
    refine va_lald (i := 0) hx hb C.2.2.1 hPc 37 2 rfl rfl (by intro h; rcases h with h | h <;> revert h <;> decide) dL_law_1105 ?_
    have e0 : vp_updL f 0 r.toInt64 (0 : Int32).toNatClampNeg = r.toInt64 := pk_uLs
    rw [e0]
    refine lv_iload hx hb dL_law_1106 (lv_at hl 0 rfl) ?_
    refine lv_i2l (v := r.toInt64) hx hb dL_law_1108 rfl ?_
    refine W.lcmp hx hb dL_law_1109 ?_
    rw [lcmp_same]
    refine lv_if_eq (tgt := 1115) hx hb dL_law_1110 (by decide) (fun _ => ?_) (fun c1 => absurd rfl c1)
    refine lv_goto (tgt := 1557) hx hb dL_law_1115 (by decide) ?_
    refine W.widen (k := cells + 200) (n := slots + 1600) (by omega) (by omega) ?_
    exact next σ' τ' (vp_updL f 0 r.toInt64) _ _ _ hR' hPc hPm hS (lv_sub hl [2, 3, 4, 5, 6] rfl)
  · skip
    refine lv_aload_n hx hb dL_law_1050 rfl (lv_at hl 1 rfl) ?_
    refine argR C (n := 1) (v := 1) hS (lv_at hl 0 rfl) (lv_at hl 4 rfl) (by decide) (hin 1 (by omega)) e1 dL_law_1051 dL_law_1052 dL_law_1054 dL_law_1055 dL_law_1056 ?_
    refine argR C (n := 2) (v := 2) hS (lv_at hl 0 rfl) (lv_at hl 4 rfl) (by decide) (hin 2 (by omega)) e2 dL_law_1057 dL_law_1058 dL_law_1060 dL_law_1061 dL_law_1062 ?_
    refine lv_aload_n hx hb dL_law_1063 rfl (lv_at hl 3 rfl) ?_
    refine lawH (σ' := σ') (f' := f) (As := [.ref (a 0), .int p1, .int p2, .ref o]) (rest := []) C (xL_line_3 l C.2.2.2.2.2.1 D y a o t ts C.aI _ f σ σ' p1 p2 h1) (vx_cwSW 4 hts (gAS aM_L_146 aT_L_line aN_L aC_L_line) rfl rfl rfl eL_line ⟨Nat.le_of_ble_eq_true rfl, Nat.le_of_ble_eq_true rfl⟩) rfl hl.1 rfl (Nat.le_of_ble_eq_true rfl) dL_law_1064 ⟨by have := hc.1; omega, by have := hc.2; omega⟩ hPc hPm hS (fun H locs hPc hPm hS => ?_)
    refine lv_istore (lv' := [(5, .int 1), (0, .ref z), (1, .ref (a 0)), (2, .ref (b 0)), (3, .ref o), (4, .int x4)]) hx hb dL_law_1067 hl (by decide) rfl (fun ls hl => ?_)
    refine lv_aload_n hx hb dL_law_1069 rfl (lv_at hl 3 rfl) ?_
    refine argR C (n := 1) (v := 1) hS (lv_at hl 1 rfl) (lv_at hl 5 rfl) (by decide) (hin 1 (by omega)) e1 dL_law_1070 dL_law_1071 dL_law_1073 dL_law_1074 dL_law_1075 ?_
    refine argR C (n := 2) (v := 2) hS (lv_at hl 1 rfl) (lv_at hl 5 rfl) (by decide) (hin 2 (by omega)) e2 dL_law_1076 dL_law_1077 dL_law_1079 dL_law_1080 dL_law_1081 ?_
    refine lawM_i (σ := σ') (τ' := τ') (As := [.int p1, .int p2]) (rest := []) C (kX8_line l D y b t C.bI _ τ τ' p1 p2 v h2) (cwV 2 hts (gAV aM_L_148 aI_X8_line aS_X8_line aN_X8 aC_X8_line) rfl rfl rfl eX8_line ⟨Nat.le_of_ble_eq_true rfl, Nat.le_of_ble_eq_true rfl⟩) rfl hl.1 rfl (Nat.le_of_ble_eq_true rfl) dL_law_1082 ⟨by have := hc.1; omega, by have := hc.2; omega⟩ hPc hPm hS (fun H locs hPc hPm hS => ?_)
    refine lv_istore (lv' := [(6, .int v), (5, .int 1), (0, .ref z), (1, .ref (a 0)), (2, .ref (b 0)), (3, .ref o), (4, .int x4)]) hx hb dL_law_1085 hl (by decide) rfl (fun ls hl => ?_)
    refine lv_aload_n hx hb dL_law_1087 rfl (lv_at hl 4 rfl) ?_
    refine lawM_i (σ := σ') (τ := τ') (τ' := τ') (As := []) (rest := []) C (kX8_thrown l D y b t C.bI _ τ' (τ'.1 0 0) rfl) (cwV 0 hts (gAV aM_L_91 aI_X8_thrown aS_X8_thrown aN_X8 aC_X8_thrown) rfl rfl rfl eX8_thrown ⟨Nat.le_of_ble_eq_true rfl, Nat.le_of_ble_eq_true rfl⟩) rfl hl.1 rfl (Nat.le_of_ble_eq_true rfl) dL_law_1088 ⟨by have := hc.1; omega, by have := hc.2; omega⟩ hPc hPm hS (fun H locs hPc hPm hS => ?_)
    refine lv_iload hx hb dL_law_1091 (lv_at hl 1 rfl) ?_
    refine lv_icmp_eq (tgt := 1098) hx hb dL_law_1093 (by decide) (fun _ => ?_) (fun c1 => absurd h3 c1)
    refine lv_iload hx hb dL_law_1098 (lv_at hl 1 rfl) ?_
    refine lv_if_ne (tgt := 1115) hx hb dL_law_1100 (by decide) (fun _ => ?_) (fun c1 => absurd c1 (by decide))
    refine lv_goto (tgt := 1557) hx hb dL_law_1115 (by decide) ?_
    refine W.widen (k := cells + 200) (n := slots + 1600) (by omega) (by omega) ?_
    exact next σ' τ' (f) _ _ _ hR' hPc hPm hS (lv_sub hl [2, 3, 4, 5, 6] rfl)
set_option maxHeartbeats 4000000 in
set_option maxRecDepth 100000 in
theorem law_box {p : Program} {l : Launch} {e : Env} {s : State} {m : MethodId} {below : List Frame} {meth : Method} {c : Code} {D : va_G} {y : Nat → ClassId} {a b t ts : Nat → Nat} {o z L : Nat} {xs : Nat → Int32} (C : LX p l s m meth c D y a b t ts o z L xs) {Q : State → Prop} {cells slots : Nat} (hc : cells + 200 ≤ 601024 ∧ slots + 1600 ≤ 7293033) {x4 : Int32} (hin : ∀ d : Nat, d < 6 → vp_in (x4 + nI d) L) {σ τ : St} {f : Nat → Int64} {H : Heap} {locs : List Loc} {ls : Array Slot} (hR : RR σ τ) (hPc : va_P D vwCl (wO y a o f σ) H) (hPm : va_P D vwCl (wM y b τ) H) (hS : va_S (fun q => s.heap.size ≤ q) s.heap H locs) (hl : lv_has ls 9 [(0, .ref z), (1, .ref (a 0)), (2, .ref (b 0)), (3, .ref o), (4, .int x4)])
    (next : ∀ (σ τ : St) (f : Nat → Int64) (H : Heap) (locs : List Loc) (ls : Array Slot), RR σ τ → va_P D vwCl (wO y a o f σ) H → va_P D vwCl (wM y b τ) H → va_S (fun q => s.heap.size ≤ q) s.heap H locs → lv_has ls 9 [(0, .ref z), (1, .ref (a 0)), (2, .ref (b 0)), (3, .ref o), (4, .int x4)] → W p l e room_1 s m #[Value.ref z] below meth c H locs (cells + 200) (slots + 1600) Q (F0 m 1557 ls [])) : W p l e room_1 s m #[Value.ref z] below meth c H locs cells slots Q (F0 m 1118 ls []) := by
  have hx := C.1.1
  have hb := C.1.2.1
  have hown := C.1.2.2.2.1
  have hts := C.1.2.2.2.2.1
  obtain ⟨p1, e1⟩ : ∃ q, q = xs (x4 + 1).toNatClampNeg := ⟨_, rfl⟩
  obtain ⟨p2, e2⟩ : ∃ q, q = xs (x4 + 2).toNatClampNeg := ⟨_, rfl⟩
  rcases P_box hR p1 p2 with ⟨r, τ', h1, h2, h3, hR'⟩ | ⟨v, τ', h1, h2, h3, hR'⟩
  · skip
    refine lv_aload_n hx hb dL_law_1118 rfl (lv_at hl 1 rfl) ?_
    refine argR C (n := 1) (v := 1) hS (lv_at hl 0 rfl) (lv_at hl 4 rfl) (by decide) (hin 1 (by omega)) e1 dL_law_1119 dL_law_1120 dL_law_1122 dL_law_1123 dL_law_1124 ?_
    refine argR C (n := 2) (v := 2) hS (lv_at hl 0 rfl) (lv_at hl 4 rfl) (by decide) (hin 2 (by omega)) e2 dL_law_1125 dL_law_1126 dL_law_1128 dL_law_1129 dL_law_1130 ?_
    refine lv_aload_n hx hb dL_law_1131 rfl (lv_at hl 3 rfl) ?_
    refine lawH (σ' := σ) (f' := vp_updL f 0 r.toInt64) (As := [.ref (a 0), .int p1, .int p2, .ref o]) (rest := []) C (kL_box l D y a o t ts C.aI _ f σ p1 p2 r h1) (vx_cwSW 4 hts (gAS aM_L_149 aT_L_box aN_L aC_L_box) rfl rfl rfl eL_box ⟨Nat.le_of_ble_eq_true rfl, Nat.le_of_ble_eq_true rfl⟩) rfl hl.1 rfl (Nat.le_of_ble_eq_true rfl) dL_law_1132 ⟨by have := hc.1; omega, by have := hc.2; omega⟩ hPc hPm hS (fun H locs hPc hPm hS => ?_)
    refine lv_istore (lv' := [(5, .int 0), (0, .ref z), (1, .ref (a 0)), (2, .ref (b 0)), (3, .ref o), (4, .int x4)]) hx hb dL_law_1135 hl (by decide) rfl (fun ls hl => ?_)
    refine lv_aload_n hx hb dL_law_1137 rfl (lv_at hl 3 rfl) ?_
    refine argR C (n := 1) (v := 1) hS (lv_at hl 1 rfl) (lv_at hl 5 rfl) (by decide) (hin 1 (by omega)) e1 dL_law_1138 dL_law_1139 dL_law_1141 dL_law_1142 dL_law_1143 ?_
    refine argR C (n := 2) (v := 2) hS (lv_at hl 1 rfl) (lv_at hl 5 rfl) (by decide) (hin 2 (by omega)) e2 dL_law_1144 dL_law_1145 dL_law_1147 dL_law_1148 dL_law_1149 ?_
    refine lawM_i (σ := σ) (τ' := τ') (As := [.int p1, .int p2]) (rest := []) C (kX8_box l D y b t C.bI _ τ τ' p1 p2 r h2) (cwV 2 hts (gAV aM_L_151 aI_X8_box aS_X8_box aN_X8 aC_X8_box) rfl rfl rfl eX8_box ⟨Nat.le_of_ble_eq_true rfl, Nat.le_of_ble_eq_true rfl⟩) rfl hl.1 rfl (Nat.le_of_ble_eq_true rfl) dL_law_1150 ⟨by have := hc.1; omega, by have := hc.2; omega⟩ hPc hPm hS (fun H locs hPc hPm hS => ?_)
    refine lv_istore (lv' := [(6, .int r), (5, .int 0), (0, .ref z), (1, .ref (a 0)), (2, .ref (b 0)), (3, .ref o), (4, .int x4)]) hx hb dL_law_1153 hl (by decide) rfl (fun ls hl => ?_)
    refine lv_aload_n hx hb dL_law_1155 rfl (lv_at hl 4 rfl) ?_
    refine lawM_i (σ := σ) (τ := τ') (τ' := τ') (As := []) (rest := []) C (kX8_thrown l D y b t C.bI _ τ' (τ'.1 0 0) rfl) (cwV 0 hts (gAV aM_L_91 aI_X8_thrown aS_X8_thrown aN_X8 aC_X8_thrown) rfl rfl rfl eX8_thrown ⟨Nat.le_of_ble_eq_true rfl, Nat.le_of_ble_eq_true rfl⟩) rfl hl.1 rfl (Nat.le_of_ble_eq_true rfl) dL_law_1156 ⟨by have := hc.1; omega, by have := hc.2; omega⟩ hPc hPm hS (fun H locs hPc hPm hS => ?_)
    refine lv_iload hx hb dL_law_1159 (lv_at hl 1 rfl) ?_
    refine lv_icmp_eq (tgt := 1166) hx hb dL_law_1161 (by decide) (fun _ => ?_) (fun c1 => absurd h3 c1)
    refine lv_iload hx hb dL_law_1166 (lv_at hl 1 rfl) ?_
    refine lv_if_ne (tgt := 1183) hx hb dL_law_1168 (by decide) (fun c1 => absurd rfl c1) (fun _ => ?_)
    refine lv_aload_n hx hb dL_law_1171 rfl (lv_at hl 5 rfl) ?_
    refine lv_iconst (v := 0) hx hb dL_law_1172 (by decide) ?_
    refine va_lald (i := 0) hx hb C.2.2.1 hPc 37 2 rfl rfl (by intro h; rcases h with h | h <;> revert h <;> decide) dL_law_1173 ?_
    have e0 : vp_updL f 0 r.toInt64 (0 : Int32).toNatClampNeg = r.toInt64 := pk_uLs
    rw [e0]
    refine lv_iload hx hb dL_law_1174 (lv_at hl 0 rfl) ?_
    refine lv_i2l (v := r.toInt64) hx hb dL_law_1176 rfl ?_
    refine W.lcmp hx hb dL_law_1177 ?_
    rw [lcmp_same]
    refine lv_if_eq (tgt := 1183) hx hb dL_law_1178 (by decide) (fun _ => ?_) (fun c1 => absurd rfl c1)
    refine lv_goto (tgt := 1557) hx hb dL_law_1183 (by decide) ?_
    refine W.widen (k := cells + 200) (n := slots + 1600) (by omega) (by omega) ?_
    exact next σ τ' (vp_updL f 0 r.toInt64) _ _ _ hR' hPc hPm hS (lv_sub hl [2, 3, 4, 5, 6] rfl)
  · skip
    refine lv_aload_n hx hb dL_law_1118 rfl (lv_at hl 1 rfl) ?_
    refine argR C (n := 1) (v := 1) hS (lv_at hl 0 rfl) (lv_at hl 4 rfl) (by decide) (hin 1 (by omega)) e1 dL_law_1119 dL_law_1120 dL_law_1122 dL_law_1123 dL_law_1124 ?_
    refine argR C (n := 2) (v := 2) hS (lv_at hl 0 rfl) (lv_at hl 4 rfl) (by decide) (hin 2 (by omega)) e2 dL_law_1125 dL_law_1126 dL_law_1128 dL_law_1129 dL_law_1130 ?_
    refine lv_aload_n hx hb dL_law_1131 rfl (lv_at hl 3 rfl) ?_
    refine lawH (σ' := σ) (f' := f) (As := [.ref (a 0), .int p1, .int p2, .ref o]) (rest := []) C (xL_box_3 l C.2.2.2.2.2.1 D y a o t ts C.aI _ f σ p1 p2 h1) (vx_cwSW 4 hts (gAS aM_L_149 aT_L_box aN_L aC_L_box) rfl rfl rfl eL_box ⟨Nat.le_of_ble_eq_true rfl, Nat.le_of_ble_eq_true rfl⟩) rfl hl.1 rfl (Nat.le_of_ble_eq_true rfl) dL_law_1132 ⟨by have := hc.1; omega, by have := hc.2; omega⟩ hPc hPm hS (fun H locs hPc hPm hS => ?_)
    refine lv_istore (lv' := [(5, .int 1), (0, .ref z), (1, .ref (a 0)), (2, .ref (b 0)), (3, .ref o), (4, .int x4)]) hx hb dL_law_1135 hl (by decide) rfl (fun ls hl => ?_)
    refine lv_aload_n hx hb dL_law_1137 rfl (lv_at hl 3 rfl) ?_
    refine argR C (n := 1) (v := 1) hS (lv_at hl 1 rfl) (lv_at hl 5 rfl) (by decide) (hin 1 (by omega)) e1 dL_law_1138 dL_law_1139 dL_law_1141 dL_law_1142 dL_law_1143 ?_
    refine argR C (n := 2) (v := 2) hS (lv_at hl 1 rfl) (lv_at hl 5 rfl) (by decide) (hin 2 (by omega)) e2 dL_law_1144 dL_law_1145 dL_law_1147 dL_law_1148 dL_law_1149 ?_
    refine lawM_i (σ := σ) (τ' := τ') (As := [.int p1, .int p2]) (rest := []) C (kX8_box l D y b t C.bI _ τ τ' p1 p2 v h2) (cwV 2 hts (gAV aM_L_151 aI_X8_box aS_X8_box aN_X8 aC_X8_box) rfl rfl rfl eX8_box ⟨Nat.le_of_ble_eq_true rfl, Nat.le_of_ble_eq_true rfl⟩) rfl hl.1 rfl (Nat.le_of_ble_eq_true rfl) dL_law_1150 ⟨by have := hc.1; omega, by have := hc.2; omega⟩ hPc hPm hS (fun H locs hPc hPm hS => ?_)
    refine lv_istore (lv' := [(6, .int v), (5, .int 1), (0, .ref z), (1, .ref (a 0)), (2, .ref (b 0)), (3, .ref o), (4, .int x4)]) hx hb dL_law_1153 hl (by decide) rfl (fun ls hl => ?_)
    refine lv_aload_n hx hb dL_law_1155 rfl (lv_at hl 4 rfl) ?_
    refine lawM_i (σ := σ) (τ := τ') (τ' := τ') (As := []) (rest := []) C (kX8_thrown l D y b t C.bI _ τ' (τ'.1 0 0) rfl) (cwV 0 hts (gAV aM_L_91 aI_X8_thrown aS_X8_thrown aN_X8 aC_X8_thrown) rfl rfl rfl eX8_thrown ⟨Nat.le_of_ble_eq_true rfl, Nat.le_of_ble_eq_true rfl⟩) rfl hl.1 rfl (Nat.le_of_ble_eq_true rfl) dL_law_1156 ⟨by have := hc.1; omega, by have := hc.2; omega⟩ hPc hPm hS (fun H locs hPc hPm hS => ?_)
    refine lv_iload hx hb dL_law_1159 (lv_at hl 1 rfl) ?_
    refine lv_icmp_eq (tgt := 1166) hx hb dL_law_1161 (by decide) (fun _ => ?_) (fun c1 => absurd h3 c1)
    refine lv_iload hx hb dL_law_1166 (lv_at hl 1 rfl) ?_
    refine lv_if_ne (tgt := 1183) hx hb dL_law_1168 (by decide) (fun _ => ?_) (fun c1 => absurd c1 (by decide))
    refine lv_goto (tgt := 1557) hx hb dL_law_1183 (by decide) ?_
    refine W.widen (k := cells + 200) (n := slots + 1600) (by omega) (by omega) ?_
    exact next σ τ' (f) _ _ _ hR' hPc hPm hS (lv_sub hl [2, 3, 4, 5, 6] rfl)
set_option maxHeartbeats 4000000 in
set_option maxRecDepth 100000 in
theorem law_fails {p : Program} {l : Launch} {e : Env} {s : State} {m : MethodId} {below : List Frame} {meth : Method} {c : Code} {D : va_G} {y : Nat → ClassId} {a b t ts : Nat → Nat} {o z L : Nat} {xs : Nat → Int32} (C : LX p l s m meth c D y a b t ts o z L xs) {Q : State → Prop} {cells slots : Nat} (hc : cells + 200 ≤ 601024 ∧ slots + 1600 ≤ 7293033) {x4 : Int32} (hin : ∀ d : Nat, d < 6 → vp_in (x4 + nI d) L) {σ τ : St} {f : Nat → Int64} {H : Heap} {locs : List Loc} {ls : Array Slot} (hR : RR σ τ) (hPc : va_P D vwCl (wO y a o f σ) H) (hPm : va_P D vwCl (wM y b τ) H) (hS : va_S (fun q => s.heap.size ≤ q) s.heap H locs) (hl : lv_has ls 9 [(0, .ref z), (1, .ref (a 0)), (2, .ref (b 0)), (3, .ref o), (4, .int x4)])
    (next : ∀ (σ τ : St) (f : Nat → Int64) (H : Heap) (locs : List Loc) (ls : Array Slot), RR σ τ → va_P D vwCl (wO y a o f σ) H → va_P D vwCl (wM y b τ) H → va_S (fun q => s.heap.size ≤ q) s.heap H locs → lv_has ls 9 [(0, .ref z), (1, .ref (a 0)), (2, .ref (b 0)), (3, .ref o), (4, .int x4)] → W p l e room_1 s m #[Value.ref z] below meth c H locs (cells + 200) (slots + 1600) Q (F0 m 1557 ls [])) : W p l e room_1 s m #[Value.ref z] below meth c H locs cells slots Q (F0 m 1186 ls []) := by
  have hx := C.1.1
  have hb := C.1.2.1
  have hown := C.1.2.2.2.1
  have hts := C.1.2.2.2.2.1
  obtain ⟨p1, e1⟩ : ∃ q, q = xs (x4 + 1).toNatClampNeg := ⟨_, rfl⟩
  rcases P_fails hR p1 with ⟨r, τ', h1, h2, h3, hR'⟩ | ⟨v, τ', h1, h2, h3, hR'⟩
  · skip
    refine lv_aload_n hx hb dL_law_1186 rfl (lv_at hl 1 rfl) ?_
    refine argR C (n := 1) (v := 1) hS (lv_at hl 0 rfl) (lv_at hl 4 rfl) (by decide) (hin 1 (by omega)) e1 dL_law_1187 dL_law_1188 dL_law_1190 dL_law_1191 dL_law_1192 ?_
    refine lv_aload_n hx hb dL_law_1193 rfl (lv_at hl 3 rfl) ?_
    refine lawH (σ' := σ) (f' := vp_updL f 0 r.toInt64) (As := [.ref (a 0), .int p1, .ref o]) (rest := []) C (kL_fails l D y a o t ts C.aI _ f σ p1 r h1) (vx_cwSW 3 hts (gAS aM_L_152 aT_L_fails aN_L aC_L_fails) rfl rfl rfl eL_fails ⟨Nat.le_of_ble_eq_true rfl, Nat.le_of_ble_eq_true rfl⟩) rfl hl.1 rfl (Nat.le_of_ble_eq_true rfl) dL_law_1194 ⟨by have := hc.1; omega, by have := hc.2; omega⟩ hPc hPm hS (fun H locs hPc hPm hS => ?_)
    refine lv_istore (lv' := [(5, .int 0), (0, .ref z), (1, .ref (a 0)), (2, .ref (b 0)), (3, .ref o), (4, .int x4)]) hx hb dL_law_1197 hl (by decide) rfl (fun ls hl => ?_)
    refine lv_aload_n hx hb dL_law_1199 rfl (lv_at hl 3 rfl) ?_
    refine argR C (n := 1) (v := 1) hS (lv_at hl 1 rfl) (lv_at hl 5 rfl) (by decide) (hin 1 (by omega)) e1 dL_law_1200 dL_law_1201 dL_law_1203 dL_law_1204 dL_law_1205 ?_
    refine lawM_i (σ := σ) (τ' := τ') (As := [.int p1]) (rest := []) C (kX8_fails l D y b t C.bI _ τ τ' p1 r h2) (cwV 1 hts (gAV aM_L_154 aI_X8_fails aS_X8_fails aN_X8 aC_X8_fails) rfl rfl rfl eX8_fails ⟨Nat.le_of_ble_eq_true rfl, Nat.le_of_ble_eq_true rfl⟩) rfl hl.1 rfl (Nat.le_of_ble_eq_true rfl) dL_law_1206 ⟨by have := hc.1; omega, by have := hc.2; omega⟩ hPc hPm hS (fun H locs hPc hPm hS => ?_)
    refine lv_istore (lv' := [(6, .int r), (5, .int 0), (0, .ref z), (1, .ref (a 0)), (2, .ref (b 0)), (3, .ref o), (4, .int x4)]) hx hb dL_law_1209 hl (by decide) rfl (fun ls hl => ?_)
    refine lv_aload_n hx hb dL_law_1211 rfl (lv_at hl 4 rfl) ?_
    refine lawM_i (σ := σ) (τ := τ') (τ' := τ') (As := []) (rest := []) C (kX8_thrown l D y b t C.bI _ τ' (τ'.1 0 0) rfl) (cwV 0 hts (gAV aM_L_91 aI_X8_thrown aS_X8_thrown aN_X8 aC_X8_thrown) rfl rfl rfl eX8_thrown ⟨Nat.le_of_ble_eq_true rfl, Nat.le_of_ble_eq_true rfl⟩) rfl hl.1 rfl (Nat.le_of_ble_eq_true rfl) dL_law_1212 ⟨by have := hc.1; omega, by have := hc.2; omega⟩ hPc hPm hS (fun H locs hPc hPm hS => ?_)
    refine lv_iload hx hb dL_law_1215 (lv_at hl 1 rfl) ?_
    refine lv_icmp_eq (tgt := 1222) hx hb dL_law_1217 (by decide) (fun _ => ?_) (fun c1 => absurd h3 c1)
    refine lv_iload hx hb dL_law_1222 (lv_at hl 1 rfl) ?_
    refine lv_if_ne (tgt := 1239) hx hb dL_law_1224 (by decide) (fun c1 => absurd rfl c1) (fun _ => ?_)
    refine lv_aload_n hx hb dL_law_1227 rfl (lv_at hl 5 rfl) ?_
    refine lv_iconst (v := 0) hx hb dL_law_1228 (by decide) ?_
    refine va_lald (i := 0) hx hb C.2.2.1 hPc 37 2 rfl rfl (by intro h; rcases h with h | h <;> revert h <;> decide) dL_law_1229 ?_
    have e0 : vp_updL f 0 r.toInt64 (0 : Int32).toNatClampNeg = r.toInt64 := pk_uLs
    rw [e0]
    refine lv_iload hx hb dL_law_1230 (lv_at hl 0 rfl) ?_
    refine lv_i2l (v := r.toInt64) hx hb dL_law_1232 rfl ?_
    refine W.lcmp hx hb dL_law_1233 ?_
    rw [lcmp_same]
    refine lv_if_eq (tgt := 1239) hx hb dL_law_1234 (by decide) (fun _ => ?_) (fun c1 => absurd rfl c1)
    refine lv_goto (tgt := 1557) hx hb dL_law_1239 (by decide) ?_
    refine W.widen (k := cells + 200) (n := slots + 1600) (by omega) (by omega) ?_
    exact next σ τ' (vp_updL f 0 r.toInt64) _ _ _ hR' hPc hPm hS (lv_sub hl [2, 3, 4, 5, 6] rfl)
  · skip
    refine lv_aload_n hx hb dL_law_1186 rfl (lv_at hl 1 rfl) ?_
    refine argR C (n := 1) (v := 1) hS (lv_at hl 0 rfl) (lv_at hl 4 rfl) (by decide) (hin 1 (by omega)) e1 dL_law_1187 dL_law_1188 dL_law_1190 dL_law_1191 dL_law_1192 ?_
    refine lv_aload_n hx hb dL_law_1193 rfl (lv_at hl 3 rfl) ?_
    refine lawH (σ' := σ) (f' := f) (As := [.ref (a 0), .int p1, .ref o]) (rest := []) C (xL_fails_3 l C.2.2.2.2.2.1 D y a o t ts C.aI _ f σ p1 h1) (vx_cwSW 3 hts (gAS aM_L_152 aT_L_fails aN_L aC_L_fails) rfl rfl rfl eL_fails ⟨Nat.le_of_ble_eq_true rfl, Nat.le_of_ble_eq_true rfl⟩) rfl hl.1 rfl (Nat.le_of_ble_eq_true rfl) dL_law_1194 ⟨by have := hc.1; omega, by have := hc.2; omega⟩ hPc hPm hS (fun H locs hPc hPm hS => ?_)
    refine lv_istore (lv' := [(5, .int 1), (0, .ref z), (1, .ref (a 0)), (2, .ref (b 0)), (3, .ref o), (4, .int x4)]) hx hb dL_law_1197 hl (by decide) rfl (fun ls hl => ?_)
    refine lv_aload_n hx hb dL_law_1199 rfl (lv_at hl 3 rfl) ?_
    refine argR C (n := 1) (v := 1) hS (lv_at hl 1 rfl) (lv_at hl 5 rfl) (by decide) (hin 1 (by omega)) e1 dL_law_1200 dL_law_1201 dL_law_1203 dL_law_1204 dL_law_1205 ?_
    refine lawM_i (σ := σ) (τ' := τ') (As := [.int p1]) (rest := []) C (kX8_fails l D y b t C.bI _ τ τ' p1 v h2) (cwV 1 hts (gAV aM_L_154 aI_X8_fails aS_X8_fails aN_X8 aC_X8_fails) rfl rfl rfl eX8_fails ⟨Nat.le_of_ble_eq_true rfl, Nat.le_of_ble_eq_true rfl⟩) rfl hl.1 rfl (Nat.le_of_ble_eq_true rfl) dL_law_1206 ⟨by have := hc.1; omega, by have := hc.2; omega⟩ hPc hPm hS (fun H locs hPc hPm hS => ?_)
    refine lv_istore (lv' := [(6, .int v), (5, .int 1), (0, .ref z), (1, .ref (a 0)), (2, .ref (b 0)), (3, .ref o), (4, .int x4)]) hx hb dL_law_1209 hl (by decide) rfl (fun ls hl => ?_)
    refine lv_aload_n hx hb dL_law_1211 rfl (lv_at hl 4 rfl) ?_
    refine lawM_i (σ := σ) (τ := τ') (τ' := τ') (As := []) (rest := []) C (kX8_thrown l D y b t C.bI _ τ' (τ'.1 0 0) rfl) (cwV 0 hts (gAV aM_L_91 aI_X8_thrown aS_X8_thrown aN_X8 aC_X8_thrown) rfl rfl rfl eX8_thrown ⟨Nat.le_of_ble_eq_true rfl, Nat.le_of_ble_eq_true rfl⟩) rfl hl.1 rfl (Nat.le_of_ble_eq_true rfl) dL_law_1212 ⟨by have := hc.1; omega, by have := hc.2; omega⟩ hPc hPm hS (fun H locs hPc hPm hS => ?_)
    refine lv_iload hx hb dL_law_1215 (lv_at hl 1 rfl) ?_
    refine lv_icmp_eq (tgt := 1222) hx hb dL_law_1217 (by decide) (fun _ => ?_) (fun c1 => absurd h3 c1)
    refine lv_iload hx hb dL_law_1222 (lv_at hl 1 rfl) ?_
    refine lv_if_ne (tgt := 1239) hx hb dL_law_1224 (by decide) (fun _ => ?_) (fun c1 => absurd c1 (by decide))
    refine lv_goto (tgt := 1557) hx hb dL_law_1239 (by decide) ?_
    refine W.widen (k := cells + 200) (n := slots + 1600) (by omega) (by omega) ?_
    exact next σ τ' (f) _ _ _ hR' hPc hPm hS (lv_sub hl [2, 3, 4, 5, 6] rfl)
set_option maxHeartbeats 4000000 in
set_option maxRecDepth 100000 in
theorem law_hint {p : Program} {l : Launch} {e : Env} {s : State} {m : MethodId} {below : List Frame} {meth : Method} {c : Code} {D : va_G} {y : Nat → ClassId} {a b t ts : Nat → Nat} {o z L : Nat} {xs : Nat → Int32} (C : LX p l s m meth c D y a b t ts o z L xs) {Q : State → Prop} {cells slots : Nat} (hc : cells + 200 ≤ 601024 ∧ slots + 1600 ≤ 7293033) {x4 : Int32} (hin : ∀ d : Nat, d < 6 → vp_in (x4 + nI d) L) {σ τ : St} {f : Nat → Int64} {H : Heap} {locs : List Loc} {ls : Array Slot} (hR : RR σ τ) (hPc : va_P D vwCl (wO y a o f σ) H) (hPm : va_P D vwCl (wM y b τ) H) (hS : va_S (fun q => s.heap.size ≤ q) s.heap H locs) (hl : lv_has ls 9 [(0, .ref z), (1, .ref (a 0)), (2, .ref (b 0)), (3, .ref o), (4, .int x4)])
    (next : ∀ (σ τ : St) (f : Nat → Int64) (H : Heap) (locs : List Loc) (ls : Array Slot), RR σ τ → va_P D vwCl (wO y a o f σ) H → va_P D vwCl (wM y b τ) H → va_S (fun q => s.heap.size ≤ q) s.heap H locs → lv_has ls 9 [(0, .ref z), (1, .ref (a 0)), (2, .ref (b 0)), (3, .ref o), (4, .int x4)] → W p l e room_1 s m #[Value.ref z] below meth c H locs (cells + 200) (slots + 1600) Q (F0 m 1557 ls [])) : W p l e room_1 s m #[Value.ref z] below meth c H locs cells slots Q (F0 m 1242 ls []) := by
  have hx := C.1.1
  have hb := C.1.2.1
  have hown := C.1.2.2.2.1
  have hts := C.1.2.2.2.2.1
  obtain ⟨p1, e1⟩ : ∃ q, q = xs (x4 + 1).toNatClampNeg := ⟨_, rfl⟩
  obtain ⟨p2, e2⟩ : ∃ q, q = xs (x4 + 2).toNatClampNeg := ⟨_, rfl⟩
  rcases P_hint hR p1 p2 with ⟨r, σ', τ', h1, h2, h3, hR'⟩ | ⟨v, σ', τ', h1, h2, h3, hR'⟩
  · skip
    refine lv_aload_n hx hb dL_law_1242 rfl (lv_at hl 1 rfl) ?_
    refine argR C (n := 1) (v := 1) hS (lv_at hl 0 rfl) (lv_at hl 4 rfl) (by decide) (hin 1 (by omega)) e1 dL_law_1243 dL_law_1244 dL_law_1246 dL_law_1247 dL_law_1248 ?_
    refine argR C (n := 2) (v := 2) hS (lv_at hl 0 rfl) (lv_at hl 4 rfl) (by decide) (hin 2 (by omega)) e2 dL_law_1249 dL_law_1250 dL_law_1252 dL_law_1253 dL_law_1254 ?_
    refine lv_aload_n hx hb dL_law_1255 rfl (lv_at hl 3 rfl) ?_
    refine lawH (σ' := σ') (f' := vp_updL f 0 r.toInt64) (As := [.ref (a 0), .int p1, .int p2, .ref o]) (rest := []) C (kL_hint l D y a o t ts C.aI _ f σ σ' p1 p2 r h1) (vx_cwSW 4 hts (gAS aM_L_155 aT_L_hint aN_L aC_L_hint) rfl rfl rfl eL_hint ⟨Nat.le_of_ble_eq_true rfl, Nat.le_of_ble_eq_true rfl⟩) rfl hl.1 rfl (Nat.le_of_ble_eq_true rfl) dL_law_1256 ⟨by have := hc.1; omega, by have := hc.2; omega⟩ hPc hPm hS (fun H locs hPc hPm hS => ?_)
    refine lv_istore (lv' := [(5, .int 0), (0, .ref z), (1, .ref (a 0)), (2, .ref (b 0)), (3, .ref o), (4, .int x4)]) hx hb dL_law_1259 hl (by decide) rfl (fun ls hl => ?_)
    refine lv_aload_n hx hb dL_law_1261 rfl (lv_at hl 3 rfl) ?_
    refine argR C (n := 1) (v := 1) hS (lv_at hl 1 rfl) (lv_at hl 5 rfl) (by decide) (hin 1 (by omega)) e1 dL_law_1262 dL_law_1263 dL_law_1265 dL_law_1266 dL_law_1267 ?_
    refine argR C (n := 2) (v := 2) hS (lv_at hl 1 rfl) (lv_at hl 5 rfl) (by decide) (hin 2 (by omega)) e2 dL_law_1268 dL_law_1269 dL_law_1271 dL_law_1272 dL_law_1273 ?_
    refine lawM_i (σ := σ') (τ' := τ') (As := [.int p1, .int p2]) (rest := []) C (kX8_hint l D y b t C.bI _ τ τ' p1 p2 r h2) (cwV 2 hts (gAV aM_L_157 aI_X8_hint aS_X8_hint aN_X8 aC_X8_hint) rfl rfl rfl eX8_hint ⟨Nat.le_of_ble_eq_true rfl, Nat.le_of_ble_eq_true rfl⟩) rfl hl.1 rfl (Nat.le_of_ble_eq_true rfl) dL_law_1274 ⟨by have := hc.1; omega, by have := hc.2; omega⟩ hPc hPm hS (fun H locs hPc hPm hS => ?_)
    refine lv_istore (lv' := [(6, .int r), (5, .int 0), (0, .ref z), (1, .ref (a 0)), (2, .ref (b 0)), (3, .ref o), (4, .int x4)]) hx hb dL_law_1277 hl (by decide) rfl (fun ls hl => ?_)
    refine lv_aload_n hx hb dL_law_1279 rfl (lv_at hl 4 rfl) ?_
    refine lawM_i (σ := σ') (τ := τ') (τ' := τ') (As := []) (rest := []) C (kX8_thrown l D y b t C.bI _ τ' (τ'.1 0 0) rfl) (cwV 0 hts (gAV aM_L_91 aI_X8_thrown aS_X8_thrown aN_X8 aC_X8_thrown) rfl rfl rfl eX8_thrown ⟨Nat.le_of_ble_eq_true rfl, Nat.le_of_ble_eq_true rfl⟩) rfl hl.1 rfl (Nat.le_of_ble_eq_true rfl) dL_law_1280 ⟨by have := hc.1; omega, by have := hc.2; omega⟩ hPc hPm hS (fun H locs hPc hPm hS => ?_)
    refine lv_iload hx hb dL_law_1283 (lv_at hl 1 rfl) ?_
    refine lv_icmp_eq (tgt := 1290) hx hb dL_law_1285 (by decide) (fun _ => ?_) (fun c1 => absurd h3 c1)
    refine lv_iload hx hb dL_law_1290 (lv_at hl 1 rfl) ?_
    refine lv_if_ne (tgt := 1307) hx hb dL_law_1292 (by decide) (fun c1 => absurd rfl c1) (fun _ => ?_)
    refine lv_aload_n hx hb dL_law_1295 rfl (lv_at hl 5 rfl) ?_
    refine lv_iconst (v := 0) hx hb dL_law_1296 (by decide) ?_
    refine va_lald (i := 0) hx hb C.2.2.1 hPc 37 2 rfl rfl (by intro h; rcases h with h | h <;> revert h <;> decide) dL_law_1297 ?_
    have e0 : vp_updL f 0 r.toInt64 (0 : Int32).toNatClampNeg = r.toInt64 := pk_uLs
    rw [e0]
    refine lv_iload hx hb dL_law_1298 (lv_at hl 0 rfl) ?_
    refine lv_i2l (v := r.toInt64) hx hb dL_law_1300 rfl ?_
    refine W.lcmp hx hb dL_law_1301 ?_
    rw [lcmp_same]
    refine lv_if_eq (tgt := 1307) hx hb dL_law_1302 (by decide) (fun _ => ?_) (fun c1 => absurd rfl c1)
    refine lv_goto (tgt := 1557) hx hb dL_law_1307 (by decide) ?_
    refine W.widen (k := cells + 200) (n := slots + 1600) (by omega) (by omega) ?_
    exact next σ' τ' (vp_updL f 0 r.toInt64) _ _ _ hR' hPc hPm hS (lv_sub hl [2, 3, 4, 5, 6] rfl)
  · skip
    refine lv_aload_n hx hb dL_law_1242 rfl (lv_at hl 1 rfl) ?_
    refine argR C (n := 1) (v := 1) hS (lv_at hl 0 rfl) (lv_at hl 4 rfl) (by decide) (hin 1 (by omega)) e1 dL_law_1243 dL_law_1244 dL_law_1246 dL_law_1247 dL_law_1248 ?_
    refine argR C (n := 2) (v := 2) hS (lv_at hl 0 rfl) (lv_at hl 4 rfl) (by decide) (hin 2 (by omega)) e2 dL_law_1249 dL_law_1250 dL_law_1252 dL_law_1253 dL_law_1254 ?_
    refine lv_aload_n hx hb dL_law_1255 rfl (lv_at hl 3 rfl) ?_
    refine lawH (σ' := σ') (f' := f) (As := [.ref (a 0), .int p1, .int p2, .ref o]) (rest := []) C (xL_hint_3 l C.2.2.2.2.2.1 D y a o t ts C.aI _ f σ σ' p1 p2 h1) (vx_cwSW 4 hts (gAS aM_L_155 aT_L_hint aN_L aC_L_hint) rfl rfl rfl eL_hint ⟨Nat.le_of_ble_eq_true rfl, Nat.le_of_ble_eq_true rfl⟩) rfl hl.1 rfl (Nat.le_of_ble_eq_true rfl) dL_law_1256 ⟨by have := hc.1; omega, by have := hc.2; omega⟩ hPc hPm hS (fun H locs hPc hPm hS => ?_)
    refine lv_istore (lv' := [(5, .int 1), (0, .ref z), (1, .ref (a 0)), (2, .ref (b 0)), (3, .ref o), (4, .int x4)]) hx hb dL_law_1259 hl (by decide) rfl (fun ls hl => ?_)
    refine lv_aload_n hx hb dL_law_1261 rfl (lv_at hl 3 rfl) ?_
    refine argR C (n := 1) (v := 1) hS (lv_at hl 1 rfl) (lv_at hl 5 rfl) (by decide) (hin 1 (by omega)) e1 dL_law_1262 dL_law_1263 dL_law_1265 dL_law_1266 dL_law_1267 ?_
    refine argR C (n := 2) (v := 2) hS (lv_at hl 1 rfl) (lv_at hl 5 rfl) (by decide) (hin 2 (by omega)) e2 dL_law_1268 dL_law_1269 dL_law_1271 dL_law_1272 dL_law_1273 ?_
    refine lawM_i (σ := σ') (τ' := τ') (As := [.int p1, .int p2]) (rest := []) C (kX8_hint l D y b t C.bI _ τ τ' p1 p2 v h2) (cwV 2 hts (gAV aM_L_157 aI_X8_hint aS_X8_hint aN_X8 aC_X8_hint) rfl rfl rfl eX8_hint ⟨Nat.le_of_ble_eq_true rfl, Nat.le_of_ble_eq_true rfl⟩) rfl hl.1 rfl (Nat.le_of_ble_eq_true rfl) dL_law_1274 ⟨by have := hc.1; omega, by have := hc.2; omega⟩ hPc hPm hS (fun H locs hPc hPm hS => ?_)
    refine lv_istore (lv' := [(6, .int v), (5, .int 1), (0, .ref z), (1, .ref (a 0)), (2, .ref (b 0)), (3, .ref o), (4, .int x4)]) hx hb dL_law_1277 hl (by decide) rfl (fun ls hl => ?_)
    refine lv_aload_n hx hb dL_law_1279 rfl (lv_at hl 4 rfl) ?_
    refine lawM_i (σ := σ') (τ := τ') (τ' := τ') (As := []) (rest := []) C (kX8_thrown l D y b t C.bI _ τ' (τ'.1 0 0) rfl) (cwV 0 hts (gAV aM_L_91 aI_X8_thrown aS_X8_thrown aN_X8 aC_X8_thrown) rfl rfl rfl eX8_thrown ⟨Nat.le_of_ble_eq_true rfl, Nat.le_of_ble_eq_true rfl⟩) rfl hl.1 rfl (Nat.le_of_ble_eq_true rfl) dL_law_1280 ⟨by have := hc.1; omega, by have := hc.2; omega⟩ hPc hPm hS (fun H locs hPc hPm hS => ?_)
    refine lv_iload hx hb dL_law_1283 (lv_at hl 1 rfl) ?_
    refine lv_icmp_eq (tgt := 1290) hx hb dL_law_1285 (by decide) (fun _ => ?_) (fun c1 => absurd h3 c1)
    refine lv_iload hx hb dL_law_1290 (lv_at hl 1 rfl) ?_
    refine lv_if_ne (tgt := 1307) hx hb dL_law_1292 (by decide) (fun _ => ?_) (fun c1 => absurd c1 (by decide))
    refine lv_goto (tgt := 1557) hx hb dL_law_1307 (by decide) ?_
    refine W.widen (k := cells + 200) (n := slots + 1600) (by omega) (by omega) ?_
    exact next σ' τ' (f) _ _ _ hR' hPc hPm hS (lv_sub hl [2, 3, 4, 5, 6] rfl)
set_option maxHeartbeats 4000000 in
set_option maxRecDepth 100000 in
theorem law_end {p : Program} {l : Launch} {e : Env} {s : State} {m : MethodId} {below : List Frame} {meth : Method} {c : Code} {D : va_G} {y : Nat → ClassId} {a b t ts : Nat → Nat} {o z L : Nat} {xs : Nat → Int32} (C : LX p l s m meth c D y a b t ts o z L xs) {Q : State → Prop} {cells slots : Nat} (hc : cells + 200 ≤ 601024 ∧ slots + 1600 ≤ 7293033) {x4 : Int32} {σ τ : St} {f : Nat → Int64} {H : Heap} {locs : List Loc} {ls : Array Slot} (hR : RR σ τ) (hPc : va_P D vwCl (wO y a o f σ) H) (hPm : va_P D vwCl (wM y b τ) H) (hS : va_S (fun q => s.heap.size ≤ q) s.heap H locs) (hl : lv_has ls 9 [(0, .ref z), (1, .ref (a 0)), (2, .ref (b 0)), (3, .ref o), (4, .int x4)])
    (next : ∀ (σ τ : St) (f : Nat → Int64) (H : Heap) (locs : List Loc) (ls : Array Slot), RR σ τ → va_P D vwCl (wO y a o f σ) H → va_P D vwCl (wM y b τ) H → va_S (fun q => s.heap.size ≤ q) s.heap H locs → lv_has ls 9 [(0, .ref z), (1, .ref (a 0)), (2, .ref (b 0)), (3, .ref o), (4, .int x4)] → W p l e room_1 s m #[Value.ref z] below meth c H locs (cells + 200) (slots + 1600) Q (F0 m 1557 ls [])) : W p l e room_1 s m #[Value.ref z] below meth c H locs cells slots Q (F0 m 1310 ls []) := by
  have hx := C.1.1
  have hb := C.1.2.1
  have hown := C.1.2.2.2.1
  have hts := C.1.2.2.2.2.1
  rcases P_end hR with ⟨r, σ', τ', h1, h2, h3, hR'⟩ | ⟨v, σ', τ', h1, h2, h3, hR'⟩
  · skip
    refine lv_aload_n hx hb dL_law_1310 rfl (lv_at hl 1 rfl) ?_
    refine lv_aload_n hx hb dL_law_1311 rfl (lv_at hl 3 rfl) ?_
    refine lawH (σ' := σ') (f' := vp_updL f 0 r.toInt64) (As := [.ref (a 0), .ref o]) (rest := []) C (kL_end l D y a o t ts C.aI _ f σ σ' r h1) (vx_cwSW 2 hts (gAS aM_L_158 aT_L_end aN_L aC_L_end) rfl rfl rfl eL_end ⟨Nat.le_of_ble_eq_true rfl, Nat.le_of_ble_eq_true rfl⟩) rfl hl.1 rfl (Nat.le_of_ble_eq_true rfl) dL_law_1312 ⟨by have := hc.1; omega, by have := hc.2; omega⟩ hPc hPm hS (fun H locs hPc hPm hS => ?_)
    refine lv_istore (lv' := [(5, .int 0), (0, .ref z), (1, .ref (a 0)), (2, .ref (b 0)), (3, .ref o), (4, .int x4)]) hx hb dL_law_1315 hl (by decide) rfl (fun ls hl => ?_)
    refine lv_aload_n hx hb dL_law_1317 rfl (lv_at hl 3 rfl) ?_
    refine lawM_i (σ := σ') (τ' := τ') (As := []) (rest := []) C (kX8_end l D y b t C.bI _ τ τ' r h2) (cwV 0 hts (gAV aM_L_160 aI_X8_end aS_X8_end aN_X8 aC_X8_end) rfl rfl rfl eX8_end ⟨Nat.le_of_ble_eq_true rfl, Nat.le_of_ble_eq_true rfl⟩) rfl hl.1 rfl (Nat.le_of_ble_eq_true rfl) dL_law_1318 ⟨by have := hc.1; omega, by have := hc.2; omega⟩ hPc hPm hS (fun H locs hPc hPm hS => ?_)
    refine lv_istore (lv' := [(6, .int r), (5, .int 0), (0, .ref z), (1, .ref (a 0)), (2, .ref (b 0)), (3, .ref o), (4, .int x4)]) hx hb dL_law_1321 hl (by decide) rfl (fun ls hl => ?_)
    refine lv_aload_n hx hb dL_law_1323 rfl (lv_at hl 4 rfl) ?_
    refine lawM_i (σ := σ') (τ := τ') (τ' := τ') (As := []) (rest := []) C (kX8_thrown l D y b t C.bI _ τ' (τ'.1 0 0) rfl) (cwV 0 hts (gAV aM_L_91 aI_X8_thrown aS_X8_thrown aN_X8 aC_X8_thrown) rfl rfl rfl eX8_thrown ⟨Nat.le_of_ble_eq_true rfl, Nat.le_of_ble_eq_true rfl⟩) rfl hl.1 rfl (Nat.le_of_ble_eq_true rfl) dL_law_1324 ⟨by have := hc.1; omega, by have := hc.2; omega⟩ hPc hPm hS (fun H locs hPc hPm hS => ?_)
    refine lv_iload hx hb dL_law_1327 (lv_at hl 1 rfl) ?_
    refine lv_icmp_eq (tgt := 1334) hx hb dL_law_1329 (by decide) (fun _ => ?_) (fun c1 => absurd h3 c1)
    refine lv_iload hx hb dL_law_1334 (lv_at hl 1 rfl) ?_
    refine lv_if_ne (tgt := 1351) hx hb dL_law_1336 (by decide) (fun c1 => absurd rfl c1) (fun _ => ?_)
    refine lv_aload_n hx hb dL_law_1339 rfl (lv_at hl 5 rfl) ?_
    refine lv_iconst (v := 0) hx hb dL_law_1340 (by decide) ?_
    refine va_lald (i := 0) hx hb C.2.2.1 hPc 37 2 rfl rfl (by intro h; rcases h with h | h <;> revert h <;> decide) dL_law_1341 ?_
    have e0 : vp_updL f 0 r.toInt64 (0 : Int32).toNatClampNeg = r.toInt64 := pk_uLs
    rw [e0]
    refine lv_iload hx hb dL_law_1342 (lv_at hl 0 rfl) ?_
    refine lv_i2l (v := r.toInt64) hx hb dL_law_1344 rfl ?_
    refine W.lcmp hx hb dL_law_1345 ?_
    rw [lcmp_same]
    refine lv_if_eq (tgt := 1351) hx hb dL_law_1346 (by decide) (fun _ => ?_) (fun c1 => absurd rfl c1)
    refine lv_goto (tgt := 1557) hx hb dL_law_1351 (by decide) ?_
    refine W.widen (k := cells + 200) (n := slots + 1600) (by omega) (by omega) ?_
    exact next σ' τ' (vp_updL f 0 r.toInt64) _ _ _ hR' hPc hPm hS (lv_sub hl [2, 3, 4, 5, 6] rfl)
  · skip
    refine lv_aload_n hx hb dL_law_1310 rfl (lv_at hl 1 rfl) ?_
    refine lv_aload_n hx hb dL_law_1311 rfl (lv_at hl 3 rfl) ?_
    refine lawH (σ' := σ') (f' := f) (As := [.ref (a 0), .ref o]) (rest := []) C (xL_end_1 l C.2.2.2.2.2.1 D y a o t ts C.aI _ f σ σ' h1) (vx_cwSW 2 hts (gAS aM_L_158 aT_L_end aN_L aC_L_end) rfl rfl rfl eL_end ⟨Nat.le_of_ble_eq_true rfl, Nat.le_of_ble_eq_true rfl⟩) rfl hl.1 rfl (Nat.le_of_ble_eq_true rfl) dL_law_1312 ⟨by have := hc.1; omega, by have := hc.2; omega⟩ hPc hPm hS (fun H locs hPc hPm hS => ?_)
    refine lv_istore (lv' := [(5, .int 1), (0, .ref z), (1, .ref (a 0)), (2, .ref (b 0)), (3, .ref o), (4, .int x4)]) hx hb dL_law_1315 hl (by decide) rfl (fun ls hl => ?_)
    refine lv_aload_n hx hb dL_law_1317 rfl (lv_at hl 3 rfl) ?_
    refine lawM_i (σ := σ') (τ' := τ') (As := []) (rest := []) C (kX8_end l D y b t C.bI _ τ τ' v h2) (cwV 0 hts (gAV aM_L_160 aI_X8_end aS_X8_end aN_X8 aC_X8_end) rfl rfl rfl eX8_end ⟨Nat.le_of_ble_eq_true rfl, Nat.le_of_ble_eq_true rfl⟩) rfl hl.1 rfl (Nat.le_of_ble_eq_true rfl) dL_law_1318 ⟨by have := hc.1; omega, by have := hc.2; omega⟩ hPc hPm hS (fun H locs hPc hPm hS => ?_)
    refine lv_istore (lv' := [(6, .int v), (5, .int 1), (0, .ref z), (1, .ref (a 0)), (2, .ref (b 0)), (3, .ref o), (4, .int x4)]) hx hb dL_law_1321 hl (by decide) rfl (fun ls hl => ?_)
    refine lv_aload_n hx hb dL_law_1323 rfl (lv_at hl 4 rfl) ?_
    refine lawM_i (σ := σ') (τ := τ') (τ' := τ') (As := []) (rest := []) C (kX8_thrown l D y b t C.bI _ τ' (τ'.1 0 0) rfl) (cwV 0 hts (gAV aM_L_91 aI_X8_thrown aS_X8_thrown aN_X8 aC_X8_thrown) rfl rfl rfl eX8_thrown ⟨Nat.le_of_ble_eq_true rfl, Nat.le_of_ble_eq_true rfl⟩) rfl hl.1 rfl (Nat.le_of_ble_eq_true rfl) dL_law_1324 ⟨by have := hc.1; omega, by have := hc.2; omega⟩ hPc hPm hS (fun H locs hPc hPm hS => ?_)
    refine lv_iload hx hb dL_law_1327 (lv_at hl 1 rfl) ?_
    refine lv_icmp_eq (tgt := 1334) hx hb dL_law_1329 (by decide) (fun _ => ?_) (fun c1 => absurd h3 c1)
    refine lv_iload hx hb dL_law_1334 (lv_at hl 1 rfl) ?_
    refine lv_if_ne (tgt := 1351) hx hb dL_law_1336 (by decide) (fun _ => ?_) (fun c1 => absurd c1 (by decide))
    refine lv_goto (tgt := 1557) hx hb dL_law_1351 (by decide) ?_
    refine W.widen (k := cells + 200) (n := slots + 1600) (by omega) (by omega) ?_
    exact next σ' τ' (f) _ _ _ hR' hPc hPm hS (lv_sub hl [2, 3, 4, 5, 6] rfl)
set_option maxHeartbeats 4000000 in
set_option maxRecDepth 100000 in
theorem law_theorem {p : Program} {l : Launch} {e : Env} {s : State} {m : MethodId} {below : List Frame} {meth : Method} {c : Code} {D : va_G} {y : Nat → ClassId} {a b t ts : Nat → Nat} {o z L : Nat} {xs : Nat → Int32} (C : LX p l s m meth c D y a b t ts o z L xs) {Q : State → Prop} {cells slots : Nat} (hc : cells + 200 ≤ 601024 ∧ slots + 1600 ≤ 7293033) {x4 : Int32} (hin : ∀ d : Nat, d < 6 → vp_in (x4 + nI d) L) {σ τ : St} {f : Nat → Int64} {H : Heap} {locs : List Loc} {ls : Array Slot} (hR : RR σ τ) (hPc : va_P D vwCl (wO y a o f σ) H) (hPm : va_P D vwCl (wM y b τ) H) (hS : va_S (fun q => s.heap.size ≤ q) s.heap H locs) (hl : lv_has ls 9 [(0, .ref z), (1, .ref (a 0)), (2, .ref (b 0)), (3, .ref o), (4, .int x4)])
    (next : ∀ (σ τ : St) (f : Nat → Int64) (H : Heap) (locs : List Loc) (ls : Array Slot), RR σ τ → va_P D vwCl (wO y a o f σ) H → va_P D vwCl (wM y b τ) H → va_S (fun q => s.heap.size ≤ q) s.heap H locs → lv_has ls 9 [(0, .ref z), (1, .ref (a 0)), (2, .ref (b 0)), (3, .ref o), (4, .int x4)] → W p l e room_1 s m #[Value.ref z] below meth c H locs (cells + 200) (slots + 1600) Q (F0 m 1557 ls [])) : W p l e room_1 s m #[Value.ref z] below meth c H locs cells slots Q (F0 m 1354 ls []) := by
  have hx := C.1.1
  have hb := C.1.2.1
  have hown := C.1.2.2.2.1
  have hts := C.1.2.2.2.2.1
  obtain ⟨p1, e1⟩ : ∃ q, q = xs (x4 + 1).toNatClampNeg := ⟨_, rfl⟩
  obtain ⟨p2, e2⟩ : ∃ q, q = xs (x4 + 2).toNatClampNeg := ⟨_, rfl⟩
  rcases P_theorem hR p1 p2 with ⟨r, τ', h1, h2, h3, hR'⟩ | ⟨v, τ', h1, h2, h3, hR'⟩
  · skip
    refine lv_aload_n hx hb dL_law_1354 rfl (lv_at hl 1 rfl) ?_
    refine argR C (n := 1) (v := 1) hS (lv_at hl 0 rfl) (lv_at hl 4 rfl) (by decide) (hin 1 (by omega)) e1 dL_law_1355 dL_law_1356 dL_law_1358 dL_law_1359 dL_law_1360 ?_
    refine argR C (n := 2) (v := 2) hS (lv_at hl 0 rfl) (lv_at hl 4 rfl) (by decide) (hin 2 (by omega)) e2 dL_law_1361 dL_law_1362 dL_law_1364 dL_law_1365 dL_law_1366 ?_
    refine lv_aload_n hx hb dL_law_1367 rfl (lv_at hl 3 rfl) ?_
    refine lawH (σ' := σ) (f' := vp_updL f 0 r.toInt64) (As := [.ref (a 0), .int p1, .int p2, .ref o]) (rest := []) C (kL_theorem l D y a o t ts C.aI _ f σ p1 p2 r h1) (vx_cwSW 4 hts (gAS aM_L_161 aT_L_theorem aN_L aC_L_theorem) rfl rfl rfl eL_theorem ⟨Nat.le_of_ble_eq_true rfl, Nat.le_of_ble_eq_true rfl⟩) rfl hl.1 rfl (Nat.le_of_ble_eq_true rfl) dL_law_1368 ⟨by have := hc.1; omega, by have := hc.2; omega⟩ hPc hPm hS (fun H locs hPc hPm hS => ?_)
    refine lv_istore (lv' := [(5, .int 0), (0, .ref z), (1, .ref (a 0)), (2, .ref (b 0)), (3, .ref o), (4, .int x4)]) hx hb dL_law_1371 hl (by decide) rfl (fun ls hl => ?_)
    refine lv_aload_n hx hb dL_law_1373 rfl (lv_at hl 3 rfl) ?_
    refine argR C (n := 1) (v := 1) hS (lv_at hl 1 rfl) (lv_at hl 5 rfl) (by decide) (hin 1 (by omega)) e1 dL_law_1374 dL_law_1375 dL_law_1377 dL_law_1378 dL_law_1379 ?_
    refine argR C (n := 2) (v := 2) hS (lv_at hl 1 rfl) (lv_at hl 5 rfl) (by decide) (hin 2 (by omega)) e2 dL_law_1380 dL_law_1381 dL_law_1383 dL_law_1384 dL_law_1385 ?_
    refine lawM_i (σ := σ) (τ' := τ') (As := [.int p1, .int p2]) (rest := []) C (kX8_theorem l D y b t C.bI _ τ τ' p1 p2 r h2) (cwV 2 hts (gAV aM_L_163 aI_X8_theorem aS_X8_theorem aN_X8 aC_X8_theorem) rfl rfl rfl eX8_theorem ⟨Nat.le_of_ble_eq_true rfl, Nat.le_of_ble_eq_true rfl⟩) rfl hl.1 rfl (Nat.le_of_ble_eq_true rfl) dL_law_1386 ⟨by have := hc.1; omega, by have := hc.2; omega⟩ hPc hPm hS (fun H locs hPc hPm hS => ?_)
    refine lv_istore (lv' := [(6, .int r), (5, .int 0), (0, .ref z), (1, .ref (a 0)), (2, .ref (b 0)), (3, .ref o), (4, .int x4)]) hx hb dL_law_1389 hl (by decide) rfl (fun ls hl => ?_)
    refine lv_aload_n hx hb dL_law_1391 rfl (lv_at hl 4 rfl) ?_
    refine lawM_i (σ := σ) (τ := τ') (τ' := τ') (As := []) (rest := []) C (kX8_thrown l D y b t C.bI _ τ' (τ'.1 0 0) rfl) (cwV 0 hts (gAV aM_L_91 aI_X8_thrown aS_X8_thrown aN_X8 aC_X8_thrown) rfl rfl rfl eX8_thrown ⟨Nat.le_of_ble_eq_true rfl, Nat.le_of_ble_eq_true rfl⟩) rfl hl.1 rfl (Nat.le_of_ble_eq_true rfl) dL_law_1392 ⟨by have := hc.1; omega, by have := hc.2; omega⟩ hPc hPm hS (fun H locs hPc hPm hS => ?_)
    refine lv_iload hx hb dL_law_1395 (lv_at hl 1 rfl) ?_
    refine lv_icmp_eq (tgt := 1402) hx hb dL_law_1397 (by decide) (fun _ => ?_) (fun c1 => absurd h3 c1)
    refine lv_iload hx hb dL_law_1402 (lv_at hl 1 rfl) ?_
    refine lv_if_ne (tgt := 1419) hx hb dL_law_1404 (by decide) (fun c1 => absurd rfl c1) (fun _ => ?_)
    refine lv_aload_n hx hb dL_law_1407 rfl (lv_at hl 5 rfl) ?_
    refine lv_iconst (v := 0) hx hb dL_law_1408 (by decide) ?_
    refine va_lald (i := 0) hx hb C.2.2.1 hPc 37 2 rfl rfl (by intro h; rcases h with h | h <;> revert h <;> decide) dL_law_1409 ?_
    have e0 : vp_updL f 0 r.toInt64 (0 : Int32).toNatClampNeg = r.toInt64 := pk_uLs
    rw [e0]
    refine lv_iload hx hb dL_law_1410 (lv_at hl 0 rfl) ?_
    refine lv_i2l (v := r.toInt64) hx hb dL_law_1412 rfl ?_
    refine W.lcmp hx hb dL_law_1413 ?_
    rw [lcmp_same]
    refine lv_if_eq (tgt := 1419) hx hb dL_law_1414 (by decide) (fun _ => ?_) (fun c1 => absurd rfl c1)
    refine lv_goto (tgt := 1557) hx hb dL_law_1419 (by decide) ?_
    refine W.widen (k := cells + 200) (n := slots + 1600) (by omega) (by omega) ?_
    exact next σ τ' (vp_updL f 0 r.toInt64) _ _ _ hR' hPc hPm hS (lv_sub hl [2, 3, 4, 5, 6] rfl)
  · skip
    refine lv_aload_n hx hb dL_law_1354 rfl (lv_at hl 1 rfl) ?_
    refine argR C (n := 1) (v := 1) hS (lv_at hl 0 rfl) (lv_at hl 4 rfl) (by decide) (hin 1 (by omega)) e1 dL_law_1355 dL_law_1356 dL_law_1358 dL_law_1359 dL_law_1360 ?_
    refine argR C (n := 2) (v := 2) hS (lv_at hl 0 rfl) (lv_at hl 4 rfl) (by decide) (hin 2 (by omega)) e2 dL_law_1361 dL_law_1362 dL_law_1364 dL_law_1365 dL_law_1366 ?_
    refine lv_aload_n hx hb dL_law_1367 rfl (lv_at hl 3 rfl) ?_
    refine lawH (σ' := σ) (f' := f) (As := [.ref (a 0), .int p1, .int p2, .ref o]) (rest := []) C (xL_theorem_3 l C.2.2.2.2.2.1 D y a o t ts C.aI _ f σ p1 p2 h1) (vx_cwSW 4 hts (gAS aM_L_161 aT_L_theorem aN_L aC_L_theorem) rfl rfl rfl eL_theorem ⟨Nat.le_of_ble_eq_true rfl, Nat.le_of_ble_eq_true rfl⟩) rfl hl.1 rfl (Nat.le_of_ble_eq_true rfl) dL_law_1368 ⟨by have := hc.1; omega, by have := hc.2; omega⟩ hPc hPm hS (fun H locs hPc hPm hS => ?_)
    refine lv_istore (lv' := [(5, .int 1), (0, .ref z), (1, .ref (a 0)), (2, .ref (b 0)), (3, .ref o), (4, .int x4)]) hx hb dL_law_1371 hl (by decide) rfl (fun ls hl => ?_)
    refine lv_aload_n hx hb dL_law_1373 rfl (lv_at hl 3 rfl) ?_
    refine argR C (n := 1) (v := 1) hS (lv_at hl 1 rfl) (lv_at hl 5 rfl) (by decide) (hin 1 (by omega)) e1 dL_law_1374 dL_law_1375 dL_law_1377 dL_law_1378 dL_law_1379 ?_
    refine argR C (n := 2) (v := 2) hS (lv_at hl 1 rfl) (lv_at hl 5 rfl) (by decide) (hin 2 (by omega)) e2 dL_law_1380 dL_law_1381 dL_law_1383 dL_law_1384 dL_law_1385 ?_
    refine lawM_i (σ := σ) (τ' := τ') (As := [.int p1, .int p2]) (rest := []) C (kX8_theorem l D y b t C.bI _ τ τ' p1 p2 v h2) (cwV 2 hts (gAV aM_L_163 aI_X8_theorem aS_X8_theorem aN_X8 aC_X8_theorem) rfl rfl rfl eX8_theorem ⟨Nat.le_of_ble_eq_true rfl, Nat.le_of_ble_eq_true rfl⟩) rfl hl.1 rfl (Nat.le_of_ble_eq_true rfl) dL_law_1386 ⟨by have := hc.1; omega, by have := hc.2; omega⟩ hPc hPm hS (fun H locs hPc hPm hS => ?_)
    refine lv_istore (lv' := [(6, .int v), (5, .int 1), (0, .ref z), (1, .ref (a 0)), (2, .ref (b 0)), (3, .ref o), (4, .int x4)]) hx hb dL_law_1389 hl (by decide) rfl (fun ls hl => ?_)
    refine lv_aload_n hx hb dL_law_1391 rfl (lv_at hl 4 rfl) ?_
    refine lawM_i (σ := σ) (τ := τ') (τ' := τ') (As := []) (rest := []) C (kX8_thrown l D y b t C.bI _ τ' (τ'.1 0 0) rfl) (cwV 0 hts (gAV aM_L_91 aI_X8_thrown aS_X8_thrown aN_X8 aC_X8_thrown) rfl rfl rfl eX8_thrown ⟨Nat.le_of_ble_eq_true rfl, Nat.le_of_ble_eq_true rfl⟩) rfl hl.1 rfl (Nat.le_of_ble_eq_true rfl) dL_law_1392 ⟨by have := hc.1; omega, by have := hc.2; omega⟩ hPc hPm hS (fun H locs hPc hPm hS => ?_)
    refine lv_iload hx hb dL_law_1395 (lv_at hl 1 rfl) ?_
    refine lv_icmp_eq (tgt := 1402) hx hb dL_law_1397 (by decide) (fun _ => ?_) (fun c1 => absurd h3 c1)
    refine lv_iload hx hb dL_law_1402 (lv_at hl 1 rfl) ?_
    refine lv_if_ne (tgt := 1419) hx hb dL_law_1404 (by decide) (fun _ => ?_) (fun c1 => absurd c1 (by decide))
    refine lv_goto (tgt := 1557) hx hb dL_law_1419 (by decide) ?_
    refine W.widen (k := cells + 200) (n := slots + 1600) (by omega) (by omega) ?_
    exact next σ τ' (f) _ _ _ hR' hPc hPm hS (lv_sub hl [2, 3, 4, 5, 6] rfl)
set_option maxHeartbeats 4000000 in
set_option maxRecDepth 100000 in
theorem law_instance {p : Program} {l : Launch} {e : Env} {s : State} {m : MethodId} {below : List Frame} {meth : Method} {c : Code} {D : va_G} {y : Nat → ClassId} {a b t ts : Nat → Nat} {o z L : Nat} {xs : Nat → Int32} (C : LX p l s m meth c D y a b t ts o z L xs) {Q : State → Prop} {cells slots : Nat} (hc : cells + 200 ≤ 601024 ∧ slots + 1600 ≤ 7293033) {x4 : Int32} (hin : ∀ d : Nat, d < 6 → vp_in (x4 + nI d) L) {σ τ : St} {f : Nat → Int64} {H : Heap} {locs : List Loc} {ls : Array Slot} (hR : RR σ τ) (hPc : va_P D vwCl (wO y a o f σ) H) (hPm : va_P D vwCl (wM y b τ) H) (hS : va_S (fun q => s.heap.size ≤ q) s.heap H locs) (hl : lv_has ls 9 [(0, .ref z), (1, .ref (a 0)), (2, .ref (b 0)), (3, .ref o), (4, .int x4)])
    (next : ∀ (σ τ : St) (f : Nat → Int64) (H : Heap) (locs : List Loc) (ls : Array Slot), RR σ τ → va_P D vwCl (wO y a o f σ) H → va_P D vwCl (wM y b τ) H → va_S (fun q => s.heap.size ≤ q) s.heap H locs → lv_has ls 9 [(0, .ref z), (1, .ref (a 0)), (2, .ref (b 0)), (3, .ref o), (4, .int x4)] → W p l e room_1 s m #[Value.ref z] below meth c H locs (cells + 200) (slots + 1600) Q (F0 m 1557 ls [])) : W p l e room_1 s m #[Value.ref z] below meth c H locs cells slots Q (F0 m 1422 ls []) := by
  have hx := C.1.1
  have hb := C.1.2.1
  have hown := C.1.2.2.2.1
  have hts := C.1.2.2.2.2.1
  obtain ⟨p1, e1⟩ : ∃ q, q = xs (x4 + 1).toNatClampNeg := ⟨_, rfl⟩
  obtain ⟨p2, e2⟩ : ∃ q, q = xs (x4 + 2).toNatClampNeg := ⟨_, rfl⟩
  obtain ⟨p3, e3⟩ : ∃ q, q = xs (x4 + 3).toNatClampNeg := ⟨_, rfl⟩
  rcases P_instance hR p1 p2 p3 with ⟨r, σ', τ', h1, h2, h3, hR'⟩ | ⟨v, σ', τ', h1, h2, h3, hR'⟩
  · skip
    refine lv_aload_n hx hb dL_law_1422 rfl (lv_at hl 1 rfl) ?_
    refine argR C (n := 1) (v := 1) hS (lv_at hl 0 rfl) (lv_at hl 4 rfl) (by decide) (hin 1 (by omega)) e1 dL_law_1423 dL_law_1424 dL_law_1426 dL_law_1427 dL_law_1428 ?_
    refine argR C (n := 2) (v := 2) hS (lv_at hl 0 rfl) (lv_at hl 4 rfl) (by decide) (hin 2 (by omega)) e2 dL_law_1429 dL_law_1430 dL_law_1432 dL_law_1433 dL_law_1434 ?_
    refine argR C (n := 3) (v := 3) hS (lv_at hl 0 rfl) (lv_at hl 4 rfl) (by decide) (hin 3 (by omega)) e3 dL_law_1435 dL_law_1436 dL_law_1438 dL_law_1439 dL_law_1440 ?_
    refine lv_aload_n hx hb dL_law_1441 rfl (lv_at hl 3 rfl) ?_
    refine lawH (σ' := σ') (f' := vp_updL f 0 r.toInt64) (As := [.ref (a 0), .int p1, .int p2, .int p3, .ref o]) (rest := []) C (kL_instance l D y a o t ts C.aI _ f σ σ' p1 p2 p3 r h1) (vx_cwSW 5 hts (gAS aM_L_164 aT_L_instance aN_L aC_L_instance) rfl rfl rfl eL_instance ⟨Nat.le_of_ble_eq_true rfl, Nat.le_of_ble_eq_true rfl⟩) rfl hl.1 rfl (Nat.le_of_ble_eq_true rfl) dL_law_1442 ⟨by have := hc.1; omega, by have := hc.2; omega⟩ hPc hPm hS (fun H locs hPc hPm hS => ?_)
    refine lv_istore (lv' := [(5, .int 0), (0, .ref z), (1, .ref (a 0)), (2, .ref (b 0)), (3, .ref o), (4, .int x4)]) hx hb dL_law_1445 hl (by decide) rfl (fun ls hl => ?_)
    refine lv_aload_n hx hb dL_law_1447 rfl (lv_at hl 3 rfl) ?_
    refine argR C (n := 1) (v := 1) hS (lv_at hl 1 rfl) (lv_at hl 5 rfl) (by decide) (hin 1 (by omega)) e1 dL_law_1448 dL_law_1449 dL_law_1451 dL_law_1452 dL_law_1453 ?_
    refine argR C (n := 2) (v := 2) hS (lv_at hl 1 rfl) (lv_at hl 5 rfl) (by decide) (hin 2 (by omega)) e2 dL_law_1454 dL_law_1455 dL_law_1457 dL_law_1458 dL_law_1459 ?_
    refine argR C (n := 3) (v := 3) hS (lv_at hl 1 rfl) (lv_at hl 5 rfl) (by decide) (hin 3 (by omega)) e3 dL_law_1460 dL_law_1461 dL_law_1463 dL_law_1464 dL_law_1465 ?_
    refine lawM_i (σ := σ') (τ' := τ') (As := [.int p1, .int p2, .int p3]) (rest := []) C (kX8_instance l D y b t C.bI _ τ τ' p1 p2 p3 r h2) (cwV 3 hts (gAV aM_L_166 aI_X8_instance aS_X8_instance aN_X8 aC_X8_instance) rfl rfl rfl eX8_instance ⟨Nat.le_of_ble_eq_true rfl, Nat.le_of_ble_eq_true rfl⟩) rfl hl.1 rfl (Nat.le_of_ble_eq_true rfl) dL_law_1466 ⟨by have := hc.1; omega, by have := hc.2; omega⟩ hPc hPm hS (fun H locs hPc hPm hS => ?_)
    refine lv_istore (lv' := [(6, .int r), (5, .int 0), (0, .ref z), (1, .ref (a 0)), (2, .ref (b 0)), (3, .ref o), (4, .int x4)]) hx hb dL_law_1469 hl (by decide) rfl (fun ls hl => ?_)
    refine lv_aload_n hx hb dL_law_1471 rfl (lv_at hl 4 rfl) ?_
    refine lawM_i (σ := σ') (τ := τ') (τ' := τ') (As := []) (rest := []) C (kX8_thrown l D y b t C.bI _ τ' (τ'.1 0 0) rfl) (cwV 0 hts (gAV aM_L_91 aI_X8_thrown aS_X8_thrown aN_X8 aC_X8_thrown) rfl rfl rfl eX8_thrown ⟨Nat.le_of_ble_eq_true rfl, Nat.le_of_ble_eq_true rfl⟩) rfl hl.1 rfl (Nat.le_of_ble_eq_true rfl) dL_law_1472 ⟨by have := hc.1; omega, by have := hc.2; omega⟩ hPc hPm hS (fun H locs hPc hPm hS => ?_)
    refine lv_iload hx hb dL_law_1475 (lv_at hl 1 rfl) ?_
    refine lv_icmp_eq (tgt := 1482) hx hb dL_law_1477 (by decide) (fun _ => ?_) (fun c1 => absurd h3 c1)
    refine lv_iload hx hb dL_law_1482 (lv_at hl 1 rfl) ?_
    refine lv_if_ne (tgt := 1499) hx hb dL_law_1484 (by decide) (fun c1 => absurd rfl c1) (fun _ => ?_)
    refine lv_aload_n hx hb dL_law_1487 rfl (lv_at hl 5 rfl) ?_
    refine lv_iconst (v := 0) hx hb dL_law_1488 (by decide) ?_
    refine va_lald (i := 0) hx hb C.2.2.1 hPc 37 2 rfl rfl (by intro h; rcases h with h | h <;> revert h <;> decide) dL_law_1489 ?_
    have e0 : vp_updL f 0 r.toInt64 (0 : Int32).toNatClampNeg = r.toInt64 := pk_uLs
    rw [e0]
    refine lv_iload hx hb dL_law_1490 (lv_at hl 0 rfl) ?_
    refine lv_i2l (v := r.toInt64) hx hb dL_law_1492 rfl ?_
    refine W.lcmp hx hb dL_law_1493 ?_
    rw [lcmp_same]
    refine lv_if_eq (tgt := 1499) hx hb dL_law_1494 (by decide) (fun _ => ?_) (fun c1 => absurd rfl c1)
    refine lv_goto (tgt := 1557) hx hb dL_law_1499 (by decide) ?_
    refine W.widen (k := cells + 200) (n := slots + 1600) (by omega) (by omega) ?_
    exact next σ' τ' (vp_updL f 0 r.toInt64) _ _ _ hR' hPc hPm hS (lv_sub hl [2, 3, 4, 5, 6] rfl)
  · skip
    refine lv_aload_n hx hb dL_law_1422 rfl (lv_at hl 1 rfl) ?_
    refine argR C (n := 1) (v := 1) hS (lv_at hl 0 rfl) (lv_at hl 4 rfl) (by decide) (hin 1 (by omega)) e1 dL_law_1423 dL_law_1424 dL_law_1426 dL_law_1427 dL_law_1428 ?_
    refine argR C (n := 2) (v := 2) hS (lv_at hl 0 rfl) (lv_at hl 4 rfl) (by decide) (hin 2 (by omega)) e2 dL_law_1429 dL_law_1430 dL_law_1432 dL_law_1433 dL_law_1434 ?_
    refine argR C (n := 3) (v := 3) hS (lv_at hl 0 rfl) (lv_at hl 4 rfl) (by decide) (hin 3 (by omega)) e3 dL_law_1435 dL_law_1436 dL_law_1438 dL_law_1439 dL_law_1440 ?_
    refine lv_aload_n hx hb dL_law_1441 rfl (lv_at hl 3 rfl) ?_
    refine lawH (σ' := σ') (f' := f) (As := [.ref (a 0), .int p1, .int p2, .int p3, .ref o]) (rest := []) C (xL_instance_3 l C.2.2.2.2.2.1 D y a o t ts C.aI _ f σ σ' p1 p2 p3 h1) (vx_cwSW 5 hts (gAS aM_L_164 aT_L_instance aN_L aC_L_instance) rfl rfl rfl eL_instance ⟨Nat.le_of_ble_eq_true rfl, Nat.le_of_ble_eq_true rfl⟩) rfl hl.1 rfl (Nat.le_of_ble_eq_true rfl) dL_law_1442 ⟨by have := hc.1; omega, by have := hc.2; omega⟩ hPc hPm hS (fun H locs hPc hPm hS => ?_)
    refine lv_istore (lv' := [(5, .int 1), (0, .ref z), (1, .ref (a 0)), (2, .ref (b 0)), (3, .ref o), (4, .int x4)]) hx hb dL_law_1445 hl (by decide) rfl (fun ls hl => ?_)
    refine lv_aload_n hx hb dL_law_1447 rfl (lv_at hl 3 rfl) ?_
    refine argR C (n := 1) (v := 1) hS (lv_at hl 1 rfl) (lv_at hl 5 rfl) (by decide) (hin 1 (by omega)) e1 dL_law_1448 dL_law_1449 dL_law_1451 dL_law_1452 dL_law_1453 ?_
    refine argR C (n := 2) (v := 2) hS (lv_at hl 1 rfl) (lv_at hl 5 rfl) (by decide) (hin 2 (by omega)) e2 dL_law_1454 dL_law_1455 dL_law_1457 dL_law_1458 dL_law_1459 ?_
    refine argR C (n := 3) (v := 3) hS (lv_at hl 1 rfl) (lv_at hl 5 rfl) (by decide) (hin 3 (by omega)) e3 dL_law_1460 dL_law_1461 dL_law_1463 dL_law_1464 dL_law_1465 ?_
    refine lawM_i (σ := σ') (τ' := τ') (As := [.int p1, .int p2, .int p3]) (rest := []) C (kX8_instance l D y b t C.bI _ τ τ' p1 p2 p3 v h2) (cwV 3 hts (gAV aM_L_166 aI_X8_instance aS_X8_instance aN_X8 aC_X8_instance) rfl rfl rfl eX8_instance ⟨Nat.le_of_ble_eq_true rfl, Nat.le_of_ble_eq_true rfl⟩) rfl hl.1 rfl (Nat.le_of_ble_eq_true rfl) dL_law_1466 ⟨by have := hc.1; omega, by have := hc.2; omega⟩ hPc hPm hS (fun H locs hPc hPm hS => ?_)
    refine lv_istore (lv' := [(6, .int v), (5, .int 1), (0, .ref z), (1, .ref (a 0)), (2, .ref (b 0)), (3, .ref o), (4, .int x4)]) hx hb dL_law_1469 hl (by decide) rfl (fun ls hl => ?_)
    refine lv_aload_n hx hb dL_law_1471 rfl (lv_at hl 4 rfl) ?_
    refine lawM_i (σ := σ') (τ := τ') (τ' := τ') (As := []) (rest := []) C (kX8_thrown l D y b t C.bI _ τ' (τ'.1 0 0) rfl) (cwV 0 hts (gAV aM_L_91 aI_X8_thrown aS_X8_thrown aN_X8 aC_X8_thrown) rfl rfl rfl eX8_thrown ⟨Nat.le_of_ble_eq_true rfl, Nat.le_of_ble_eq_true rfl⟩) rfl hl.1 rfl (Nat.le_of_ble_eq_true rfl) dL_law_1472 ⟨by have := hc.1; omega, by have := hc.2; omega⟩ hPc hPm hS (fun H locs hPc hPm hS => ?_)
    refine lv_iload hx hb dL_law_1475 (lv_at hl 1 rfl) ?_
    refine lv_icmp_eq (tgt := 1482) hx hb dL_law_1477 (by decide) (fun _ => ?_) (fun c1 => absurd h3 c1)
    refine lv_iload hx hb dL_law_1482 (lv_at hl 1 rfl) ?_
    refine lv_if_ne (tgt := 1499) hx hb dL_law_1484 (by decide) (fun _ => ?_) (fun c1 => absurd c1 (by decide))
    refine lv_goto (tgt := 1557) hx hb dL_law_1499 (by decide) ?_
    refine W.widen (k := cells + 200) (n := slots + 1600) (by omega) (by omega) ?_
    exact next σ' τ' (f) _ _ _ hR' hPc hPm hS (lv_sub hl [2, 3, 4, 5, 6] rfl)
set_option maxHeartbeats 4000000 in
set_option maxRecDepth 100000 in
theorem law_thrift {p : Program} {l : Launch} {e : Env} {s : State} {m : MethodId} {below : List Frame} {meth : Method} {c : Code} {D : va_G} {y : Nat → ClassId} {a b t ts : Nat → Nat} {o z L : Nat} {xs : Nat → Int32} (C : LX p l s m meth c D y a b t ts o z L xs) {Q : State → Prop} {cells slots : Nat} (hc : cells + 200 ≤ 601024 ∧ slots + 1600 ≤ 7293033) {x4 : Int32} {σ τ : St} {f : Nat → Int64} {H : Heap} {locs : List Loc} {ls : Array Slot} (hR : RR σ τ) (hPc : va_P D vwCl (wO y a o f σ) H) (hPm : va_P D vwCl (wM y b τ) H) (hS : va_S (fun q => s.heap.size ≤ q) s.heap H locs) (hl : lv_has ls 9 [(0, .ref z), (1, .ref (a 0)), (2, .ref (b 0)), (3, .ref o), (4, .int x4)])
    (next : ∀ (σ τ : St) (f : Nat → Int64) (H : Heap) (locs : List Loc) (ls : Array Slot), RR σ τ → va_P D vwCl (wO y a o f σ) H → va_P D vwCl (wM y b τ) H → va_S (fun q => s.heap.size ≤ q) s.heap H locs → lv_has ls 9 [(0, .ref z), (1, .ref (a 0)), (2, .ref (b 0)), (3, .ref o), (4, .int x4)] → W p l e room_1 s m #[Value.ref z] below meth c H locs (cells + 200) (slots + 1600) Q (F0 m 1557 ls [])) : W p l e room_1 s m #[Value.ref z] below meth c H locs cells slots Q (F0 m 1502 ls []) := by
  have hx := C.1.1
  have hb := C.1.2.1
  have hown := C.1.2.2.2.1
  have hts := C.1.2.2.2.2.1
  obtain ⟨r, τ', h1, h2, hR'⟩ := P_thrift hR
  refine lv_aload_n hx hb dL_law_1502 rfl (lv_at hl 1 rfl) ?_
  refine lawX_d (σ' := σ) (As := []) (rest := []) C (kX7_thrift l D y a t (ao_I C.aI) _ σ r h1) (cwV 0 hts (gAV aM_L_167 aI_X7_thrift aS_X7_thrift aN_X7 aC_X7_thrift) rfl rfl rfl eX7_thrift ⟨Nat.le_of_ble_eq_true rfl, Nat.le_of_ble_eq_true rfl⟩) rfl hl.1 rfl (Nat.le_of_ble_eq_true rfl) dL_law_1503 ⟨by have := hc.1; omega, by have := hc.2; omega⟩ hPc hPm hS (fun H locs hPc hPm hS => ?_)
  refine lv_dstore (lv' := [(5, .double r), (0, .ref z), (1, .ref (a 0)), (2, .ref (b 0)), (3, .ref o), (4, .int x4)]) hx hb dL_law_1506 hl (by decide) rfl (fun ls hl => ?_)
  refine lv_aload_n hx hb dL_law_1508 rfl (lv_at hl 3 rfl) ?_
  refine lawM_d (σ := σ) (τ' := τ') (As := []) (rest := []) C (kX8_thrift l D y b t C.bI _ τ τ' r h2) (cwV 0 hts (gAV aM_L_171 aI_X8_thrift aS_X8_thrift aN_X8 aC_X8_thrift) rfl rfl rfl eX8_thrift ⟨Nat.le_of_ble_eq_true rfl, Nat.le_of_ble_eq_true rfl⟩) rfl hl.1 rfl (Nat.le_of_ble_eq_true rfl) dL_law_1509 ⟨by have := hc.1; omega, by have := hc.2; omega⟩ hPc hPm hS (fun H locs hPc hPm hS => ?_)
  refine lv_dstore (lv' := [(7, .double r), (5, .double r), (0, .ref z), (1, .ref (a 0)), (2, .ref (b 0)), (3, .ref o), (4, .int x4)]) hx hb dL_law_1512 hl (by decide) rfl (fun ls hl => ?_)
  refine lv_dload hx hb dL_law_1514 (lv_at hl 1 rfl) ?_
  refine lv_dload hx hb dL_law_1516 (lv_at hl 0 rfl) ?_
  refine lv_dcmp hx hb dL_law_1518 ?_
  refine lv_if_eq (tgt := 1540) hx hb dL_law_1519 (by decide) (fun c1 => ?_) (fun c1 => ?_)
  · refine lv_goto (tgt := 1557) hx hb dL_law_1540 (by decide) ?_
    refine W.widen (k := cells + 200) (n := slots + 1600) (by omega) (by omega) ?_
    exact next σ τ' f _ _ _ hR' hPc hPm hS (lv_sub hl [2, 3, 4, 5, 6] rfl)
  · refine lv_dload hx hb dL_law_1522 (lv_at hl 1 rfl) ?_
    refine lv_dload hx hb dL_law_1524 (lv_at hl 1 rfl) ?_
    refine lv_dcmp hx hb dL_law_1526 ?_
    refine lv_if_eq (tgt := 1538) hx hb dL_law_1527 (by decide) (fun c2 => absurd c2 c1) (fun c2 => ?_)
    refine lv_dload hx hb dL_law_1530 (lv_at hl 0 rfl) ?_
    refine lv_dload hx hb dL_law_1532 (lv_at hl 0 rfl) ?_
    refine lv_dcmp hx hb dL_law_1534 ?_
    refine lv_if_ne (tgt := 1540) hx hb dL_law_1535 (by decide) (fun c3 => ?_) (fun c3 => absurd c3 c1)
    refine lv_goto (tgt := 1557) hx hb dL_law_1540 (by decide) ?_
    refine W.widen (k := cells + 200) (n := slots + 1600) (by omega) (by omega) ?_
    exact next σ τ' f _ _ _ hR' hPc hPm hS (lv_sub hl [2, 3, 4, 5, 6] rfl)
set_option maxHeartbeats 4000000 in
set_option maxRecDepth 100000 in
theorem law_digest {p : Program} {l : Launch} {e : Env} {s : State} {m : MethodId} {below : List Frame} {meth : Method} {c : Code} {D : va_G} {y : Nat → ClassId} {a b t ts : Nat → Nat} {o z L : Nat} {xs : Nat → Int32} (C : LX p l s m meth c D y a b t ts o z L xs) {Q : State → Prop} {cells slots : Nat} (hc : cells + 200 ≤ 601024 ∧ slots + 1600 ≤ 7293033) {x4 : Int32} {σ τ : St} {f : Nat → Int64} {H : Heap} {locs : List Loc} {ls : Array Slot} (hR : RR σ τ) (hPc : va_P D vwCl (wO y a o f σ) H) (hPm : va_P D vwCl (wM y b τ) H) (hS : va_S (fun q => s.heap.size ≤ q) s.heap H locs) (hl : lv_has ls 9 [(0, .ref z), (1, .ref (a 0)), (2, .ref (b 0)), (3, .ref o), (4, .int x4)])
    (next : ∀ (σ τ : St) (f : Nat → Int64) (H : Heap) (locs : List Loc) (ls : Array Slot), RR σ τ → va_P D vwCl (wO y a o f σ) H → va_P D vwCl (wM y b τ) H → va_S (fun q => s.heap.size ≤ q) s.heap H locs → lv_has ls 9 [(0, .ref z), (1, .ref (a 0)), (2, .ref (b 0)), (3, .ref o), (4, .int x4)] → W p l e room_1 s m #[Value.ref z] below meth c H locs (cells + 200) (slots + 1600) Q (F0 m 1557 ls [])) : W p l e room_1 s m #[Value.ref z] below meth c H locs cells slots Q (F0 m 1543 ls []) := by
  have hx := C.1.1
  have hb := C.1.2.1
  have hown := C.1.2.2.2.1
  have hts := C.1.2.2.2.2.1
  obtain ⟨r, σ', τ', h1, h2, hR'⟩ := P_digest hR
  refine lv_aload_n hx hb dL_law_1543 rfl (lv_at hl 1 rfl) ?_
  refine lawX_l (σ' := σ') (As := []) (rest := []) C (kX7_digest l D y a t (ao_I C.aI) _ σ σ' r h1) (cwV 0 hts (gAV aM_L_172 aI_X7_digest aS_X7_digest aN_X7 aC_X7_digest) rfl rfl rfl eX7_digest ⟨Nat.le_of_ble_eq_true rfl, Nat.le_of_ble_eq_true rfl⟩) rfl hl.1 rfl (Nat.le_of_ble_eq_true rfl) dL_law_1544 ⟨by have := hc.1; omega, by have := hc.2; omega⟩ hPc hPm hS (fun H locs hPc hPm hS => ?_)
  refine lv_aload_n hx hb dL_law_1547 rfl (lv_at hl 2 rfl) ?_
  refine lawM_l (σ := σ') (τ' := τ') (As := []) (rest := [.long r]) C (kX8_digest l D y b t C.bI _ τ τ' r h2) (cwV 0 hts (gAV aM_L_176 aI_X8_digest aS_X8_digest aN_X8 aC_X8_digest) rfl rfl rfl eX8_digest ⟨Nat.le_of_ble_eq_true rfl, Nat.le_of_ble_eq_true rfl⟩) rfl hl.1 rfl (Nat.le_of_ble_eq_true rfl) dL_law_1548 ⟨by have := hc.1; omega, by have := hc.2; omega⟩ hPc hPm hS (fun H locs hPc hPm hS => ?_)
  refine W.lcmp hx hb dL_law_1551 ?_
  rw [lcmp_same]
  refine lv_if_eq (tgt := 1557) hx hb dL_law_1552 (by decide) (fun _ => ?_) (fun c1 => absurd rfl c1)
  refine W.widen (k := cells + 200) (n := slots + 1600) (by omega) (by omega) ?_
  exact next σ' τ' f _ _ _ hR' hPc hPm hS (lv_sub hl [0, 1, 2, 3, 4] rfl)
