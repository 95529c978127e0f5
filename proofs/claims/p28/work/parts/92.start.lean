theorem andL {a b : Cond} {args : Array Value} {s : State} (h : (Cond.and a b).before args s = true) : a.before args s = true := by rw [Cond.before_and, Bool.and_eq_true] at h; exact h.1
theorem andR {a b : Cond} {args : Array Value} {s : State} (h : (Cond.and a b).before args s = true) : b.before args s = true := by rw [Cond.before_and, Bool.and_eq_true] at h; exact h.2
theorem tb_t1 {w : Cond} (h : w ∈ tables_1_1) : w ∈ lw_tbl := List.mem_append_right _ (List.mem_append_left _ h)
theorem tb_t2 {w : Cond} (h : w ∈ tables_1_2) : w ∈ lw_tbl := List.mem_append_right _ (List.mem_append_right _ (List.mem_append_left _ h))
theorem tb_t3 {w : Cond} (h : w ∈ tables_1_3) : w ∈ lw_tbl := List.mem_append_right _ (List.mem_append_right _ (List.mem_append_right _ (List.mem_append_left _ h)))
theorem tb_t4 {w : Cond} (h : w ∈ tables_1_4) : w ∈ lw_tbl := List.mem_append_right _ (List.mem_append_right _ (List.mem_append_right _ (List.mem_append_right _ (h))))
set_option maxHeartbeats 4000000 in
set_option maxRecDepth 100000 in
theorem st_KINDS {s : State} {args : Array Value} (hn : narrow_1.before args s = true) (hts : ∀ w ∈ lw_tbl, w.before args s = true) : ∃ t0 : Nat, va_Z "ProofDesk$Rules" "KINDS" "[I" (.ref t0) (fun q => s.heap.size ≤ q) s s.heap ∧ va_T .int t0 48 (fun j => .int (kKINDS j)) (fun q => s.heap.size ≤ q) s s.heap := by
  have hA : ∀ a : Nat, a < s.heap.size → ¬ (fun q => s.heap.size ≤ q) a := fun a h1 h2 => by have h3 : s.heap.size ≤ a := h2; omega
  have hel : ∀ j : Nat, j < 48 → (Term.elem (.static "ProofDesk$Rules" "KINDS" "[I") (.int (Int32.ofNat j))).eval args s none [] s = some (.int (kKINDS j)) := fun j hj => match j, hj with
    | 0, _ => va_eqt (andR (andR (andR (andL (andR (andL (andL (andL (andL (andL (hn)))))))))))
    | 1, _ => va_eqt (andL (andL (andR (andR (andL (andL (andL (andL (andL (hn))))))))))
    | 2, _ => va_eqt (andL (andR (andL (andR (andR (andL (andL (andL (andL (andL (hn)))))))))))
    | 3, _ => va_eqt (andR (andR (andL (andR (andR (andL (andL (andL (andL (andL (hn)))))))))))
    | 4, _ => va_eqt (andL (andR (andR (andR (andL (andL (andL (andL (andL (hn))))))))))
    | 5, _ => va_eqt (andL (andR (andR (andR (andR (andL (andL (andL (andL (andL (hn)))))))))))
    | 6, _ => va_eqt (andR (andR (andR (andR (andR (andL (andL (andL (andL (andL (hn)))))))))))
    | 7, _ => va_eqt (andL (andL (andL (andL (andR (andL (andL (andL (andL (hn))))))))))
    | 8, _ => va_eqt (andR (andL (andL (andL (andR (andL (andL (andL (andL (hn))))))))))
    | 9, _ => va_eqt (andL (andR (andL (andL (andR (andL (andL (andL (andL (hn))))))))))
    | 10, _ => va_eqt (andL (andR (andR (andL (andL (andR (andL (andL (andL (andL (hn)))))))))))
    | 11, _ => va_eqt (andR (andR (andR (andL (andL (andR (andL (andL (andL (andL (hn)))))))))))
    | 12, _ => va_eqt (andL (andL (andR (andL (andR (andL (andL (andL (andL (hn))))))))))
    | 13, _ => va_eqt (andL (andR (andL (andR (andL (andR (andL (andL (andL (andL (hn)))))))))))
    | 14, _ => va_eqt (andR (andR (andL (andR (andL (andR (andL (andL (andL (andL (hn)))))))))))
    | 15, _ => va_eqt (andL (andR (andR (andL (andR (andL (andL (andL (andL (hn))))))))))
    | 16, _ => va_eqt (andL (andR (andR (andR (andL (andR (andL (andL (andL (andL (hn)))))))))))
    | 17, _ => va_eqt (andR (andR (andR (andR (andL (andR (andL (andL (andL (andL (hn)))))))))))
    | 18, _ => va_eqt (andL (andL (andL (andR (andR (andL (andL (andL (andL (hn))))))))))
    | 19, _ => va_eqt (andL (andR (andL (andL (andR (andR (andL (andL (andL (andL (hn)))))))))))
    | 20, _ => va_eqt (andR (andR (andL (andL (andR (andR (andL (andL (andL (andL (hn)))))))))))
    | 21, _ => va_eqt (andL (andR (andL (andR (andR (andL (andL (andL (andL (hn))))))))))
    | 22, _ => va_eqt (andL (andR (andR (andL (andR (andR (andL (andL (andL (andL (hn)))))))))))
    | 23, _ => va_eqt (andR (andR (andR (andL (andR (andR (andL (andL (andL (andL (hn)))))))))))
    | 24, _ => va_eqt (andL (andL (andR (andR (andR (andL (andL (andL (andL (hn))))))))))
    | 25, _ => va_eqt (andL (andR (andL (andR (andR (andR (andL (andL (andL (andL (hn)))))))))))
    | 26, _ => va_eqt (andR (andR (andL (andR (andR (andR (andL (andL (andL (andL (hn)))))))))))
    | 27, _ => va_eqt (andL (andR (andR (andR (andR (andL (andL (andL (andL (hn))))))))))
    | 28, _ => va_eqt (andL (andR (andR (andR (andR (andR (andL (andL (andL (andL (hn)))))))))))
    | 29, _ => va_eqt (andR (andR (andR (andR (andR (andR (andL (andL (andL (andL (hn)))))))))))
    | 30, _ => va_eqt (andL (andL (andL (andL (andL (andR (andL (andL (andL (hn))))))))))
    | 31, _ => va_eqt (andR (andL (andL (andL (andL (andR (andL (andL (andL (hn))))))))))
    | 32, _ => va_eqt (andL (andR (andL (andL (andL (andR (andL (andL (andL (hn))))))))))
    | 33, _ => va_eqt (andL (andR (andR (andL (andL (andL (andR (andL (andL (andL (hn)))))))))))
    | 34, _ => va_eqt (andR (andR (andR (andL (andL (andL (andR (andL (andL (andL (hn)))))))))))
    | 35, _ => va_eqt (andL (andL (andR (andL (andL (andR (andL (andL (andL (hn))))))))))
    | 36, _ => va_eqt (andL (andR (andL (andR (andL (andL (andR (andL (andL (andL (hn)))))))))))
    | 37, _ => va_eqt (andR (andR (andL (andR (andL (andL (andR (andL (andL (andL (hn)))))))))))
    | 38, _ => va_eqt (andL (andR (andR (andL (andL (andR (andL (andL (andL (hn))))))))))
    | 39, _ => va_eqt (andL (andR (andR (andR (andL (andL (andR (andL (andL (andL (hn)))))))))))
    | 40, _ => va_eqt (andR (andR (andR (andR (andL (andL (andR (andL (andL (andL (hn)))))))))))
    | 41, _ => va_eqt (andL (andL (andL (andR (andL (andR (andL (andL (andL (hn))))))))))
    | 42, _ => va_eqt (andL (andR (andL (andL (andR (andL (andR (andL (andL (andL (hn)))))))))))
    | 43, _ => va_eqt (andR (andR (andL (andL (andR (andL (andR (andL (andL (andL (hn)))))))))))
    | 44, _ => va_eqt (andL (andR (andL (andR (andL (andR (andL (andL (andL (hn))))))))))
    | 45, _ => va_eqt (andL (andR (andR (andL (andR (andL (andR (andL (andL (andL (hn)))))))))))
    | 46, _ => va_eqt (andR (andR (andR (andL (andR (andL (andR (andL (andL (andL (hn)))))))))))
    | 47, _ => va_eqt (andL (andL (andR (andR (andL (andR (andL (andL (andL (hn))))))))))
    | k + 48, h => absurd h (by omega)
  obtain ⟨t0, h1, h2⟩ := va_Tof (tm := .static "ProofDesk$Rules" "KINDS" "[I") (ty := .int) (N := 48) (f := fun j => .int (kKINDS j)) (A := (fun q => s.heap.size ≤ q)) (by decide) (andL (andR (andL (andR (andL (andL (andL (andL (andL (hn)))))))))) (va_eqt (andL (andR (andR (andL (andR (andL (andL (andL (andL (andL (hn)))))))))))) hel hA
  exact ⟨t0, va_Zref (hts _ (tb_t2 (List.mem_of_getElem? (i := 233) rfl))) (hts _ (tb_t1 (List.mem_of_getElem? (i := 8) rfl))) h1 hA, h2⟩
set_option maxHeartbeats 4000000 in
set_option maxRecDepth 100000 in
theorem st_LETTER_WORDS {s : State} {args : Array Value} (hn : narrow_1.before args s = true) (hts : ∀ w ∈ lw_tbl, w.before args s = true) : ∃ t0 : Nat, va_Z "ProofDesk$Formulas" "LETTER_WORDS" "[J" (.ref t0) (fun q => s.heap.size ≤ q) s s.heap ∧ va_T .long t0 6 (fun j => .long (kLW j)) (fun q => s.heap.size ≤ q) s s.heap := by
  have hA : ∀ a : Nat, a < s.heap.size → ¬ (fun q => s.heap.size ≤ q) a := fun a h1 h2 => by have h3 : s.heap.size ≤ a := h2; omega
  have hel : ∀ j : Nat, j < 6 → (Term.elem (.static "ProofDesk$Formulas" "LETTER_WORDS" "[J") (.int (Int32.ofNat j))).eval args s none [] s = some (.long (kLW j)) := fun j hj => match j, hj with
    | 0, _ => va_eqtl (andR (andR (andL (andR (andL (andL (andL (andL (andL (andL (hn)))))))))))
    | 1, _ => va_eqtl (andL (andR (andR (andL (andL (andL (andL (andL (andL (hn))))))))))
    | 2, _ => va_eqtl (andL (andR (andR (andR (andL (andL (andL (andL (andL (andL (hn)))))))))))
    | 3, _ => va_eqtl (andR (andR (andR (andR (andL (andL (andL (andL (andL (andL (hn)))))))))))
    | 4, _ => va_eqtl (andL (andL (andL (andR (andL (andL (andL (andL (andL (hn))))))))))
    | 5, _ => va_eqtl (andL (andR (andL (andL (andR (andL (andL (andL (andL (andL (hn)))))))))))
    | k + 6, h => absurd h (by omega)
  obtain ⟨t0, h1, h2⟩ := va_Tof (tm := .static "ProofDesk$Formulas" "LETTER_WORDS" "[J") (ty := .long) (N := 6) (f := fun j => .long (kLW j)) (A := (fun q => s.heap.size ≤ q)) (by decide) (andL (andL (andR (andL (andL (andL (andL (andL (andL (hn)))))))))) (va_eqt (andL (andR (andL (andR (andL (andL (andL (andL (andL (andL (hn)))))))))))) hel hA
  exact ⟨t0, va_Zref (hts _ (tb_t2 (List.mem_of_getElem? (i := 142) rfl))) (hts _ (tb_t1 (List.mem_of_getElem? (i := 2) rfl))) h1 hA, h2⟩
set_option maxHeartbeats 4000000 in
set_option maxRecDepth 100000 in
theorem st_SF {s : State} {args : Array Value} (hn : narrow_1.before args s = true) (hts : ∀ w ∈ lw_tbl, w.before args s = true) : ∃ t : Nat → Nat, SF t (fun q => s.heap.size ≤ q) s := by
  obtain ⟨t0, a1, a2⟩ := st_KINDS hn hts
  obtain ⟨t1, b1, b2⟩ := st_LETTER_WORDS hn hts
  exact ⟨fun k => if k = 0 then t0 else t1, a1, a2, b1, b2, trivial⟩
set_option maxHeartbeats 4000000 in
set_option maxRecDepth 100000 in
theorem st_K {s : State} {args : Array Value} (hts : ∀ w ∈ lw_tbl, w.before args s = true) : ∃ (D : va_G) (y : Nat → ClassId), va_K D vwCl (tysA y) s := by
  obtain ⟨c0, iS0, h0⟩ := u_known (C := RX0) (T := TX0) (N := 6) (n := 6) hts (fun w h => aw_tbl (hwX0 w h)) (hts _ (aw_tbl aX_X0))
  obtain ⟨c1, iS1, h1⟩ := u_known (C := RX1) (T := TX1) (N := 8) (n := 8) hts (fun w h => aw_tbl (hwX1 w h)) (hts _ (aw_tbl aX_X1))
  obtain ⟨c2, iS2, h2⟩ := u_known (C := RX2) (T := TX2) (N := 6) (n := 6) hts (fun w h => aw_tbl (hwX2 w h)) (hts _ (aw_tbl aX_X2))
  obtain ⟨c3, iS3, h3⟩ := u_known (C := RX3) (T := TX3) (N := 12) (n := 12) hts (fun w h => aw_tbl (hwX3 w h)) (hts _ (aw_tbl aX_X3))
  obtain ⟨c4, iS4, h4⟩ := u_known (C := RX4) (T := TX4) (N := 4) (n := 4) hts (fun w h => aw_tbl (hwX4 w h)) (hts _ (aw_tbl aX_X4))
  obtain ⟨c5, iS5, h5⟩ := u_known (C := RX5) (T := TX5) (N := 5) (n := 5) hts (fun w h => aw_tbl (hwX5 w h)) (hts _ (aw_tbl aX_X5))
  obtain ⟨c6, iS6, h6⟩ := u_known (C := RX6) (T := TX6) (N := 9) (n := 9) hts (fun w h => aw_tbl (hwX6 w h)) (hts _ (aw_tbl aX_X6))
  obtain ⟨c7, iS7, h7⟩ := u_known (C := RX7) (T := TX7) (N := 6) (n := 6) hts (fun w h => aw_tbl (hwX7 w h)) (hts _ (aw_tbl aX_X7))
  obtain ⟨y0, k0, m0, a0, b0, d0⟩ := Cond.arrayClass_spec (args := args) (first := s) (o := none) (s := s) (idx := []) (hts _ (aw_tbl aA_int))
  obtain ⟨y1, k1, m1, a1, b1, d1⟩ := Cond.arrayClass_spec (args := args) (first := s) (o := none) (s := s) (idx := []) (hts _ (aw_tbl aA_byte))
  obtain ⟨y2, k2, m2, a2, b2, d2⟩ := Cond.arrayClass_spec (args := args) (first := s) (o := none) (s := s) (idx := []) (hts _ (aw_tbl aA_long))
  obtain ⟨y3, k3, m3, a3, b3, d3⟩ := Cond.arrayClass_spec (args := args) (first := s) (o := none) (s := s) (idx := []) (hts _ (aw_tbl aA_boolean))
  refine ⟨(fun k => [c0, c1, c2, c3, c4, c5, c6, c7].getD k c0, fun k => [iS0, iS1, iS2, iS3, iS4, iS5, iS6, iS7].getD k iS0), fun k => [y0, y1, y2, y3].getD k y0, ?_, ?_⟩
  · intro k q hq
    match k, hq with
    | 0, hq => cases hq; exact h0
    | 1, hq => cases hq; exact h1
    | 2, hq => cases hq; exact h2
    | 3, hq => cases hq; exact h3
    | 4, hq => cases hq; exact h4
    | 5, hq => cases hq; exact h5
    | 6, hq => cases hq; exact h6
    | 7, hq => cases hq; exact h7
    | k + 8, hq => simp [vwCl] at hq
  · intro k q hq
    match k, hq with
    | 0, hq => cases hq; exact ⟨fun n z => ⟨fun k h => (by cases h), k0, b0, m0, d0⟩, a0⟩
    | 1, hq => cases hq; exact ⟨fun n z => ⟨fun k h => (by cases h), k1, b1, m1, d1⟩, a1⟩
    | 2, hq => cases hq; exact ⟨fun n z => ⟨fun k h => (by cases h), k2, b2, m2, d2⟩, a2⟩
    | 3, hq => cases hq; exact ⟨fun n z => ⟨fun k h => (by cases h), k3, b3, m3, d3⟩, a3⟩
    | k + 4, hq => simp [tysA] at hq
set_option maxHeartbeats 4000000 in
set_option maxRecDepth 100000 in
/-- THE LAW, from its entry -/
theorem whole_start {p : Program} {e : Env} {s : State} {m : MethodId} {below : List Frame} {meth : Method} {c : Code} (l : Launch) (hflags : l.flags = flags0) {b L : Nat} {xs : Nat → Int32} (hL : L ≤ 260) (C0 : lw_At p s m meth c b L xs) : W p l e room_1 s m #[Value.ref b] below meth c s.heap [] 0 0 (lw_Z below #[Value.ref b] s) (entryFrame m ([Value.ref b] : List Value).toArray 20) := by
  obtain ⟨hx, hb, hr, hml, hown, htb, hX, hbl, hlocks, hgv⟩ := id C0
  have hn : narrow_1.before #[Value.ref b] s = true := andR hgv
  have hown : s.vm.findClass RL = some m.cls := hown
  obtain ⟨t, hF⟩ := st_SF hn htb
  obtain ⟨D, y, hK⟩ := st_K htb
  have hts : ∀ w ∈ (Cond.initialized RX7 :: AW), w.before #[Value.ref b] s = true := fun w h => (List.mem_cons.mp h).elim (fun e => by rw [e]; exact htb _ (aw_tbl aN_X7)) (fun h => htb w (aw_tbl h))
  have hNX : NX s := ⟨va_Nw.of rfl (htb _ (tb_t1 (List.mem_of_getElem? (i := 28) rfl))), va_Nw.of rfl (htb _ (tb_t1 (List.mem_of_getElem? (i := 147) rfl)))⟩
  have hw7 : ∀ w ∈ wsX70, w.before #[Value.ref b] s = true := fun w h => htb w (aw_tbl (hwX7 w h))
  obtain ⟨A, hAe⟩ : ∃ A : Nat → Prop, A = fun q => s.heap.size ≤ q := ⟨_, rfl⟩
  have hA : ∀ q : Nat, s.heap.size ≤ q → A q := fun q h => by rw [hAe]; exact h
  have hS : va_S A s.heap s.heap [] := va_S.rf
  have hP : va_P D vwCl [] s.heap := fun k q h => by simp at h
  have hD : va_D A [] := ⟨fun i j p q h => by simp at h, fun k q h => by simp at h⟩
  have hl := lv_entry ([.ref b]) (n := 20) (Nat.le_of_ble_eq_true rfl)
  rw [lg_entry_eq]
  generalize (lg_sl ([.ref b]) ++ List.replicate (20 - (lg_sl ([.ref b])).length) Slot.unset).toArray = ls at hl ⊢
  have hl : lv_has ls 20 [(0, .ref b)] := hl
  refine va_new (ci := 7) (fs := [.null, .null, .null, .null, .null, .null]) (C := RX7) (T := TX7) (N := 6) hx hb hw7 (fun _ h => h) tyX7 tyX7_ok hown (htb _ (aw_tbl aL_L_30)) (htb _ (aw_tbl aX_X7)) (htb _ (aw_tbl aN_X7)) hK hP hD hS hA rfl (fun j hj => by rcases (show j = 0 ∨ j = 1 ∨ j = 2 ∨ j = 3 ∨ j = 4 ∨ j = 5 by omega) with rfl | rfl | rfl | rfl | rfl | rfl <;> rfl) (by show _ ≤ 146; omega) (by show _ ≤ 6122; omega) dL_law_0 (fun x0 H hP hD hS => ?_)
  have hP : va_P D vwCl [(x0, .inr (7, [.null, .null, .null, .null, .null, .null]))] H := hP
  have hD : va_D A [(x0, .inr (7, [.null, .null, .null, .null, .null, .null]))] := hD
  refine W.widen (k := 1) (n := 6) (by omega) (by omega) ?_
  refine lv_dup hx hb dL_law_3 rfl ?_
  have hPc := hP.sub (ws' := [(x0, .inr (7, [.null, .null, .null, .null, .null, .null]))]) [0] rfl
  have hFc := va_free (wc := [(x0, .inr (7, [.null, .null, .null, .null, .null, .null]))]) hD hS hA [0] rfl
  have hDc := hD.sub (ws' := [(x0, .inr (7, [.null, .null, .null, .null, .null, .null]))]) [0] (by decide) rfl
  refine va_callv (va_runI (nL := 20) (As := []) (rest := [.ref x0]) ⟨hx, hb, hml, hown, hts⟩ (kX7_init l D y x0 _) (cwI 0 hts (gAI aC_X7_init) rfl rfl rfl (htb _ (aw_tbl aN_X7)) (htb _ (aw_tbl aM_L_32)) (htb _ (aw_tbl aI_X7_init)) rfl eX7_init ⟨Nat.le_of_ble_eq_true rfl, Nat.le_of_ble_eq_true rfl⟩) ⟨preI_blind, fun U hU hW => ⟨rfl, by rw [hU], by rw [hU]; exact hPc, va_K.moved hW.alike hK, hDc.weaken (fun _ _ _ _ => trivial), hNX.warm hW⟩⟩ rfl rfl hl.1 rfl (lv_room (Nat.le_of_ble_eq_true rfl)) dL_law_4 ⟨by show _ ≤ 146; omega, by show _ ≤ 6122; omega⟩) hS (fun q _ h => hFc q h) hFc (fun u T H1 locs ht hvm hw hB hz1 hk1 hS => ?_)
  obtain ⟨x1, x2, x3, x4, x5, x6, x7, x8, x9, x10, x11, x12, x13, x14, x15, x16, x17, x18, x19, x20, x21, x22, x23, x24, x25, x26, x27, x28, x29, x30, x31, x32, x33, x34, x35, x36, hP1, hD1⟩ := hB
  rw [ht] at hP1
  obtain ⟨hP, hD⟩ := va_join (wr := []) (w1 := [(x0, .inr (7, [.ref x1, .ref x9, .ref x11, .ref x15, .ref x23, .ref x35])), (x1, .inr (1, [.ref x2, .ref x3, .ref x4, .ref x5, .ref x6, .ref x7, .ref x8, .int 0])), (x2, .inl (y 0, 240, .inl (fun _ => 0))), (x3, .inl (y 0, 240, .inl (fun _ => 0))), (x4, .inl (y 0, 240, .inl (fun _ => 0))), (x5, .inl (y 0, 240, .inl (fun _ => 0))), (x6, .inl (y 0, 240, .inl (fun _ => 0))), (x7, .inl (y 0, 240, .inl (fun _ => 0))), (x8, .inl (y 2, 960, .inr (.inl (fun _ => 0)))), (x9, .inr (5, [.ref x1, .ref x10, .int 0, .int 0, .int (-1)])), (x10, .inl (y 1, 400, .inl (fun _ => 0))), (x11, .inr (2, [.ref x1, .ref x12, .ref x13, .ref x14, .int 0, .int 0])), (x12, .inl (y 1, 400, .inl (fun _ => 0))), (x13, .inl (y 0, 400, .inl (fun _ => 0))), (x14, .inl (y 0, 400, .inl (fun _ => 0))), (x15, .inr (6, [.ref x1, .ref x16, .ref x17, .ref x18, .ref x19, .ref x20, .ref x21, .ref x22, .int 0])), (x16, .inl (y 0, 16, .inl (fun _ => 0))), (x17, .inl (y 0, 16, .inl (fun _ => 0))), (x18, .inl (y 0, 16, .inl (fun _ => 0))), (x19, .inl (y 0, 16, .inl (fun _ => 0))), (x20, .inl (y 0, 16, .inl (fun _ => 0))), (x21, .inl (y 0, 16, .inl (fun _ => 0))), (x22, .inl (y 0, 240, .inl (fun _ => 0))), (x23, .inr (3, [.ref x1, .ref x15, .ref x24, .ref x28, .ref x29, .ref x30, .ref x31, .ref x32, .ref x33, .ref x34, .int 0, .int 0])), (x24, .inr (0, [.ref x25, .ref x26, .ref x27, .int 0, .int 0, .int (-1)])), (x25, .inl (y 0, 60, .inl (fun _ => 0))), (x26, .inl (y 0, 60, .inl (fun _ => 0))), (x27, .inl (y 0, 60, .inl (fun _ => 0))), (x28, .inl (y 0, 60, .inl (fun _ => 0))), (x29, .inl (y 0, 60, .inl (fun _ => 0))), (x30, .inl (y 0, 180, .inl (fun _ => 0))), (x31, .inl (y 0, 180, .inl (fun _ => 0))), (x32, .inl (y 0, 60, .inl (fun _ => 0))), (x33, .inl (y 3, 60, .inl (fun _ => 0))), (x34, .inl (y 0, 120, .inl (fun _ => 0))), (x35, .inr (4, [.ref x1, .ref x15, .ref x23, .ref x36])), (x36, .inl (y 0, 4, .inl (fun _ => 0)))]) hP hD [0] [] rfl rfl (by decide) (by decide) hk1 hFc hP1 hD1
  generalize H1 = H at hP hS ⊢
  have hP : va_P D vwCl [(x0, .inr (7, [.ref x1, .ref x9, .ref x11, .ref x15, .ref x23, .ref x35])), (x1, .inr (1, [.ref x2, .ref x3, .ref x4, .ref x5, .ref x6, .ref x7, .ref x8, .int 0])), (x2, .inl (y 0, 240, .inl (fun _ => 0))), (x3, .inl (y 0, 240, .inl (fun _ => 0))), (x4, .inl (y 0, 240, .inl (fun _ => 0))), (x5, .inl (y 0, 240, .inl (fun _ => 0))), (x6, .inl (y 0, 240, .inl (fun _ => 0))), (x7, .inl (y 0, 240, .inl (fun _ => 0))), (x8, .inl (y 2, 960, .inr (.inl (fun _ => 0)))), (x9, .inr (5, [.ref x1, .ref x10, .int 0, .int 0, .int (-1)])), (x10, .inl (y 1, 400, .inl (fun _ => 0))), (x11, .inr (2, [.ref x1, .ref x12, .ref x13, .ref x14, .int 0, .int 0])), (x12, .inl (y 1, 400, .inl (fun _ => 0))), (x13, .inl (y 0, 400, .inl (fun _ => 0))), (x14, .inl (y 0, 400, .inl (fun _ => 0))), (x15, .inr (6, [.ref x1, .ref x16, .ref x17, .ref x18, .ref x19, .ref x20, .ref x21, .ref x22, .int 0])), (x16, .inl (y 0, 16, .inl (fun _ => 0))), (x17, .inl (y 0, 16, .inl (fun _ => 0))), (x18, .inl (y 0, 16, .inl (fun _ => 0))), (x19, .inl (y 0, 16, .inl (fun _ => 0))), (x20, .inl (y 0, 16, .inl (fun _ => 0))), (x21, .inl (y 0, 16, .inl (fun _ => 0))), (x22, .inl (y 0, 240, .inl (fun _ => 0))), (x23, .inr (3, [.ref x1, .ref x15, .ref x24, .ref x28, .ref x29, .ref x30, .ref x31, .ref x32, .ref x33, .ref x34, .int 0, .int 0])), (x24, .inr (0, [.ref x25, .ref x26, .ref x27, .int 0, .int 0, .int (-1)])), (x25, .inl (y 0, 60, .inl (fun _ => 0))), (x26, .inl (y 0, 60, .inl (fun _ => 0))), (x27, .inl (y 0, 60, .inl (fun _ => 0))), (x28, .inl (y 0, 60, .inl (fun _ => 0))), (x29, .inl (y 0, 60, .inl (fun _ => 0))), (x30, .inl (y 0, 180, .inl (fun _ => 0))), (x31, .inl (y 0, 180, .inl (fun _ => 0))), (x32, .inl (y 0, 60, .inl (fun _ => 0))), (x33, .inl (y 3, 60, .inl (fun _ => 0))), (x34, .inl (y 0, 120, .inl (fun _ => 0))), (x35, .inr (4, [.ref x1, .ref x15, .ref x23, .ref x36])), (x36, .inl (y 0, 4, .inl (fun _ => 0)))] H := hP
  have hD : va_D A [(x0, .inr (7, [.ref x1, .ref x9, .ref x11, .ref x15, .ref x23, .ref x35])), (x1, .inr (1, [.ref x2, .ref x3, .ref x4, .ref x5, .ref x6, .ref x7, .ref x8, .int 0])), (x2, .inl (y 0, 240, .inl (fun _ => 0))), (x3, .inl (y 0, 240, .inl (fun _ => 0))), (x4, .inl (y 0, 240, .inl (fun _ => 0))), (x5, .inl (y 0, 240, .inl (fun _ => 0))), (x6, .inl (y 0, 240, .inl (fun _ => 0))), (x7, .inl (y 0, 240, .inl (fun _ => 0))), (x8, .inl (y 2, 960, .inr (.inl (fun _ => 0)))), (x9, .inr (5, [.ref x1, .ref x10, .int 0, .int 0, .int (-1)])), (x10, .inl (y 1, 400, .inl (fun _ => 0))), (x11, .inr (2, [.ref x1, .ref x12, .ref x13, .ref x14, .int 0, .int 0])), (x12, .inl (y 1, 400, .inl (fun _ => 0))), (x13, .inl (y 0, 400, .inl (fun _ => 0))), (x14, .inl (y 0, 400, .inl (fun _ => 0))), (x15, .inr (6, [.ref x1, .ref x16, .ref x17, .ref x18, .ref x19, .ref x20, .ref x21, .ref x22, .int 0])), (x16, .inl (y 0, 16, .inl (fun _ => 0))), (x17, .inl (y 0, 16, .inl (fun _ => 0))), (x18, .inl (y 0, 16, .inl (fun _ => 0))), (x19, .inl (y 0, 16, .inl (fun _ => 0))), (x20, .inl (y 0, 16, .inl (fun _ => 0))), (x21, .inl (y 0, 16, .inl (fun _ => 0))), (x22, .inl (y 0, 240, .inl (fun _ => 0))), (x23, .inr (3, [.ref x1, .ref x15, .ref x24, .ref x28, .ref x29, .ref x30, .ref x31, .ref x32, .ref x33, .ref x34, .int 0, .int 0])), (x24, .inr (0, [.ref x25, .ref x26, .ref x27, .int 0, .int 0, .int (-1)])), (x25, .inl (y 0, 60, .inl (fun _ => 0))), (x26, .inl (y 0, 60, .inl (fun _ => 0))), (x27, .inl (y 0, 60, .inl (fun _ => 0))), (x28, .inl (y 0, 60, .inl (fun _ => 0))), (x29, .inl (y 0, 60, .inl (fun _ => 0))), (x30, .inl (y 0, 180, .inl (fun _ => 0))), (x31, .inl (y 0, 180, .inl (fun _ => 0))), (x32, .inl (y 0, 60, .inl (fun _ => 0))), (x33, .inl (y 3, 60, .inl (fun _ => 0))), (x34, .inl (y 0, 120, .inl (fun _ => 0))), (x35, .inr (4, [.ref x1, .ref x15, .ref x23, .ref x36])), (x36, .inl (y 0, 4, .inl (fun _ => 0)))] := hD
  refine W.widen (k := 37) (n := 5296) (by omega) (by omega) ?_
  refine lv_astore_n (lv' := [(1, .ref x0), (0, .ref b)]) hx hb dL_law_7 rfl hl (by decide) rfl (fun ls hl => ?_)
  obtain ⟨av, hav⟩ : ∃ av : Nat → Nat, av = fun k => [x0, x1, x9, x11, x15, x23, x24, x35, x2, x3, x4, x5, x6, x7, x8, x10, x12, x13, x14, x16, x17, x18, x19, x20, x21, x22, x28, x29, x30, x31, x32, x33, x34, x25, x26, x27, x36].getD k 0 := ⟨_, rfl⟩
  have hPo : va_P D vwCl (wC y av σ0) H := by rw [hav]; exact hP.sub [0, 1, 9, 11, 15, 23, 24, 35, 2, 3, 4, 5, 6, 7, 8, 10, 12, 13, 14, 16, 17, 18, 19, 20, 21, 22, 28, 29, 30, 31, 32, 33, 34, 25, 26, 27, 36] rfl
  have hDD := hD.sub (ws' := wC y av σ0) [0, 1, 9, 11, 15, 23, 24, 35, 2, 3, 4, 5, 6, 7, 8, 10, 12, 13, 14, 16, 17, 18, 19, 20, 21, 22, 28, 29, 30, 31, 32, 33, 34, 25, 26, 27, 36] (by decide) (by rw [hav]; rfl)
  have hmap : (wC y av σ0).map (fun q => q.1) = (List.range 37).map av := rfl
  have hI37 : AI av 37 := fun i j hi hj h => by
    have hlen : (wC y av σ0).length = 37 := rfl
    have g1 := List.getElem?_eq_getElem (l := wC y av σ0) (i := i) (by rw [hlen]; exact hi)
    have g2 := List.getElem?_eq_getElem (l := wC y av σ0) (i := j) (by rw [hlen]; exact hj)
    exact hDD.1 i j _ _ g1 g2 (by rw [(ad_of hmap g1).2, (ad_of hmap g2).2]; exact h)
  have hA37 : ∀ k, k < 37 → s.heap.size ≤ av k := fun k hk => by
    have hlen : (wC y av σ0).length = 37 := rfl
    have g1 := List.getElem?_eq_getElem (l := wC y av σ0) (i := k) (by rw [hlen]; exact hk)
    have g2 := hDD.2 k _ g1
    rw [(ad_of hmap g1).2, hAe] at g2
    exact g2
  rw [hAe] at hS
  have h0 : x0 = av 0 := by rw [hav]; rfl
  have hl : lv_has ls 20 [(1, .ref (av 0)), (0, .ref b)] := by rw [← h0]; exact hl
  have hA0 : ∀ q, AC av 37 s.heap.size q → s.heap.size ≤ q := fun q h => h.elim (fun ⟨k, h1, h2⟩ => by rw [h2]; exact hA37 k h1) (fun h => h)
  have hzA : ¬ AC av 37 s.heap.size b := fun h => by have := hA0 b h; omega
  have hS' : va_S (AC av 37 s.heap.size) s.heap H locs := ⟨hS.1, fun q h1 h2 => hS.2.1 q h1 (fun h3 => h2 (Or.inr h3)), fun q hq => Or.inr (hS.2.2 q hq)⟩
  have hF' : SF t (AC av 37 s.heap.size) s := hF.next (Vm.Alike.refl s.vm) rfl va_S.rf hA0
  exact law_body hx hb hml hown hts hlocks hr hX hbl hzA hA0 hK hF' hI37 σ0 _ _ _ hPo hS' (lv_sub hl [1, 0] rfl) (law_pure xs L)
