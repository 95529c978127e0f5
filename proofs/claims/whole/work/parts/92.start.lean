theorem andL {a b : Cond} {args : Array Value} {s : State} (h : (Cond.and a b).before args s = true) : a.before args s = true := by rw [Cond.before_and, Bool.and_eq_true] at h; exact h.1
theorem andR {a b : Cond} {args : Array Value} {s : State} (h : (Cond.and a b).before args s = true) : b.before args s = true := by rw [Cond.before_and, Bool.and_eq_true] at h; exact h.2
theorem tb_t1 {w : Cond} (h : w ∈ tables_1_1) : w ∈ lw_tbl := List.mem_append_right _ (List.mem_append_left _ h)
theorem tb_t2 {w : Cond} (h : w ∈ tables_1_2) : w ∈ lw_tbl := List.mem_append_right _ (List.mem_append_right _ (List.mem_append_left _ h))
theorem tb_t3 {w : Cond} (h : w ∈ tables_1_3) : w ∈ lw_tbl := List.mem_append_right _ (List.mem_append_right _ (List.mem_append_right _ (List.mem_append_left _ h)))
theorem tb_t4 {w : Cond} (h : w ∈ tables_1_4) : w ∈ lw_tbl := List.mem_append_right _ (List.mem_append_right _ (List.mem_append_right _ (List.mem_append_right _ (List.mem_append_left _ h))))
theorem tb_t5 {w : Cond} (h : w ∈ tables_1_5) : w ∈ lw_tbl := List.mem_append_right _ (List.mem_append_right _ (List.mem_append_right _ (List.mem_append_right _ (List.mem_append_right _ (List.mem_append_left _ h)))))
theorem tb_t6 {w : Cond} (h : w ∈ tables_1_6) : w ∈ lw_tbl := List.mem_append_right _ (List.mem_append_right _ (List.mem_append_right _ (List.mem_append_right _ (List.mem_append_right _ (List.mem_append_right _ (List.mem_append_left _ h))))))
theorem tb_t7 {w : Cond} (h : w ∈ tables_1_7) : w ∈ lw_tbl := List.mem_append_right _ (List.mem_append_right _ (List.mem_append_right _ (List.mem_append_right _ (List.mem_append_right _ (List.mem_append_right _ (List.mem_append_right _ (h)))))))
set_option maxHeartbeats 4000000 in
set_option maxRecDepth 100000 in
theorem st_KINDS {s : State} {args : Array Value} (hn : narrow_1.before args s = true) (hts : ∀ w ∈ lw_tbl, w.before args s = true) : ∃ t0 : Nat, va_Z "ProofDesk$Rules" "KINDS" "[I" (.ref t0) (fun q => s.heap.size ≤ q) s s.heap ∧ va_T .int t0 48 (fun j => .int (kKINDS j)) (fun q => s.heap.size ≤ q) s s.heap := by
  have hA : ∀ a : Nat, a < s.heap.size → ¬ (fun q => s.heap.size ≤ q) a := fun a h1 h2 => by have h3 : s.heap.size ≤ a := h2; omega
  have hel : ∀ j : Nat, j < 48 → (Term.elem (.static "ProofDesk$Rules" "KINDS" "[I") (.int (Int32.ofNat j))).eval args s none [] s = some (.int (kKINDS j)) := fun j hj => match j, hj with
    | 0, _ => va_eqt (andL (andL (andL (andL (andR (andL (andL (andL (andL (andL (hn)))))))))))
    | 1, _ => va_eqt (andR (andL (andL (andL (andR (andL (andL (andL (andL (andL (hn)))))))))))
    | 2, _ => va_eqt (andL (andR (andL (andL (andR (andL (andL (andL (andL (andL (hn)))))))))))
    | 3, _ => va_eqt (andR (andR (andL (andL (andR (andL (andL (andL (andL (andL (hn)))))))))))
    | 4, _ => va_eqt (andL (andL (andR (andL (andR (andL (andL (andL (andL (andL (hn)))))))))))
    | 5, _ => va_eqt (andR (andL (andR (andL (andR (andL (andL (andL (andL (andL (hn)))))))))))
    | 6, _ => va_eqt (andL (andR (andR (andL (andR (andL (andL (andL (andL (andL (hn)))))))))))
    | 7, _ => va_eqt (andR (andR (andR (andL (andR (andL (andL (andL (andL (andL (hn)))))))))))
    | 8, _ => va_eqt (andL (andL (andL (andR (andR (andL (andL (andL (andL (andL (hn)))))))))))
    | 9, _ => va_eqt (andR (andL (andL (andR (andR (andL (andL (andL (andL (andL (hn)))))))))))
    | 10, _ => va_eqt (andL (andR (andL (andR (andR (andL (andL (andL (andL (andL (hn)))))))))))
    | 11, _ => va_eqt (andR (andR (andL (andR (andR (andL (andL (andL (andL (andL (hn)))))))))))
    | 12, _ => va_eqt (andL (andL (andR (andR (andR (andL (andL (andL (andL (andL (hn)))))))))))
    | 13, _ => va_eqt (andR (andL (andR (andR (andR (andL (andL (andL (andL (andL (hn)))))))))))
    | 14, _ => va_eqt (andL (andR (andR (andR (andR (andL (andL (andL (andL (andL (hn)))))))))))
    | 15, _ => va_eqt (andR (andR (andR (andR (andR (andL (andL (andL (andL (andL (hn)))))))))))
    | 16, _ => va_eqt (andL (andL (andL (andL (andL (andR (andL (andL (andL (andL (hn)))))))))))
    | 17, _ => va_eqt (andR (andL (andL (andL (andL (andR (andL (andL (andL (andL (hn)))))))))))
    | 18, _ => va_eqt (andL (andR (andL (andL (andL (andR (andL (andL (andL (andL (hn)))))))))))
    | 19, _ => va_eqt (andR (andR (andL (andL (andL (andR (andL (andL (andL (andL (hn)))))))))))
    | 20, _ => va_eqt (andL (andL (andR (andL (andL (andR (andL (andL (andL (andL (hn)))))))))))
    | 21, _ => va_eqt (andR (andL (andR (andL (andL (andR (andL (andL (andL (andL (hn)))))))))))
    | 22, _ => va_eqt (andL (andR (andR (andL (andL (andR (andL (andL (andL (andL (hn)))))))))))
    | 23, _ => va_eqt (andR (andR (andR (andL (andL (andR (andL (andL (andL (andL (hn)))))))))))
    | 24, _ => va_eqt (andL (andL (andL (andR (andL (andR (andL (andL (andL (andL (hn)))))))))))
    | 25, _ => va_eqt (andR (andL (andL (andR (andL (andR (andL (andL (andL (andL (hn)))))))))))
    | 26, _ => va_eqt (andL (andR (andL (andR (andL (andR (andL (andL (andL (andL (hn)))))))))))
    | 27, _ => va_eqt (andR (andR (andL (andR (andL (andR (andL (andL (andL (andL (hn)))))))))))
    | 28, _ => va_eqt (andL (andL (andR (andR (andL (andR (andL (andL (andL (andL (hn)))))))))))
    | 29, _ => va_eqt (andR (andL (andR (andR (andL (andR (andL (andL (andL (andL (hn)))))))))))
    | 30, _ => va_eqt (andL (andR (andR (andR (andL (andR (andL (andL (andL (andL (hn)))))))))))
    | 31, _ => va_eqt (andR (andR (andR (andR (andL (andR (andL (andL (andL (andL (hn)))))))))))
    | 32, _ => va_eqt (andL (andL (andL (andL (andR (andR (andL (andL (andL (andL (hn)))))))))))
    | 33, _ => va_eqt (andR (andL (andL (andL (andR (andR (andL (andL (andL (andL (hn)))))))))))
    | 34, _ => va_eqt (andL (andR (andL (andL (andR (andR (andL (andL (andL (andL (hn)))))))))))
    | 35, _ => va_eqt (andR (andR (andL (andL (andR (andR (andL (andL (andL (andL (hn)))))))))))
    | 36, _ => va_eqt (andL (andL (andR (andL (andR (andR (andL (andL (andL (andL (hn)))))))))))
    | 37, _ => va_eqt (andR (andL (andR (andL (andR (andR (andL (andL (andL (andL (hn)))))))))))
    | 38, _ => va_eqt (andL (andR (andR (andL (andR (andR (andL (andL (andL (andL (hn)))))))))))
    | 39, _ => va_eqt (andR (andR (andR (andL (andR (andR (andL (andL (andL (andL (hn)))))))))))
    | 40, _ => va_eqt (andL (andL (andL (andR (andR (andR (andL (andL (andL (andL (hn)))))))))))
    | 41, _ => va_eqt (andR (andL (andL (andR (andR (andR (andL (andL (andL (andL (hn)))))))))))
    | 42, _ => va_eqt (andL (andR (andL (andR (andR (andR (andL (andL (andL (andL (hn)))))))))))
    | 43, _ => va_eqt (andR (andR (andL (andR (andR (andR (andL (andL (andL (andL (hn)))))))))))
    | 44, _ => va_eqt (andL (andL (andR (andR (andR (andR (andL (andL (andL (andL (hn)))))))))))
    | 45, _ => va_eqt (andR (andL (andR (andR (andR (andR (andL (andL (andL (andL (hn)))))))))))
    | 46, _ => va_eqt (andL (andR (andR (andR (andR (andR (andL (andL (andL (andL (hn)))))))))))
    | 47, _ => va_eqt (andR (andR (andR (andR (andR (andR (andL (andL (andL (andL (hn)))))))))))
    | k + 48, h => absurd h (by omega)
  obtain ⟨t0, h1, h2⟩ := va_Tof (tm := .static "ProofDesk$Rules" "KINDS" "[I") (ty := .int) (N := 48) (f := fun j => .int (kKINDS j)) (A := (fun q => s.heap.size ≤ q)) (by decide) (andL (andR (andR (andR (andL (andL (andL (andL (andL (andL (hn))))))))))) (va_eqt (andR (andR (andR (andR (andL (andL (andL (andL (andL (andL (hn)))))))))))) hel hA
  exact ⟨t0, va_Zref (hts _ (tb_t4 (List.mem_of_getElem? (i := 81) rfl))) (hts _ (tb_t1 (List.mem_of_getElem? (i := 8) rfl))) h1 hA, h2⟩
set_option maxHeartbeats 4000000 in
set_option maxRecDepth 100000 in
theorem st_LETTER_WORDS {s : State} {args : Array Value} (hn : narrow_1.before args s = true) (hts : ∀ w ∈ lw_tbl, w.before args s = true) : ∃ t0 : Nat, va_Z "ProofDesk$Formulas" "LETTER_WORDS" "[J" (.ref t0) (fun q => s.heap.size ≤ q) s s.heap ∧ va_T .long t0 6 (fun j => .long (kLW j)) (fun q => s.heap.size ≤ q) s s.heap := by
  have hA : ∀ a : Nat, a < s.heap.size → ¬ (fun q => s.heap.size ≤ q) a := fun a h1 h2 => by have h3 : s.heap.size ≤ a := h2; omega
  have hel : ∀ j : Nat, j < 6 → (Term.elem (.static "ProofDesk$Formulas" "LETTER_WORDS" "[J") (.int (Int32.ofNat j))).eval args s none [] s = some (.long (kLW j)) := fun j hj => match j, hj with
    | 0, _ => va_eqtl (andR (andL (andR (andL (andL (andL (andL (andL (andL (andL (hn)))))))))))
    | 1, _ => va_eqtl (andL (andR (andR (andL (andL (andL (andL (andL (andL (andL (hn)))))))))))
    | 2, _ => va_eqtl (andR (andR (andR (andL (andL (andL (andL (andL (andL (andL (hn)))))))))))
    | 3, _ => va_eqtl (andL (andL (andL (andR (andL (andL (andL (andL (andL (andL (hn)))))))))))
    | 4, _ => va_eqtl (andR (andL (andL (andR (andL (andL (andL (andL (andL (andL (hn)))))))))))
    | 5, _ => va_eqtl (andL (andR (andL (andR (andL (andL (andL (andL (andL (andL (hn)))))))))))
    | k + 6, h => absurd h (by omega)
  obtain ⟨t0, h1, h2⟩ := va_Tof (tm := .static "ProofDesk$Formulas" "LETTER_WORDS" "[J") (ty := .long) (N := 6) (f := fun j => .long (kLW j)) (A := (fun q => s.heap.size ≤ q)) (by decide) (andR (andR (andL (andL (andL (andL (andL (andL (andL (andL (hn))))))))))) (va_eqt (andL (andL (andR (andL (andL (andL (andL (andL (andL (andL (hn)))))))))))) hel hA
  exact ⟨t0, va_Zref (hts _ (tb_t2 (List.mem_of_getElem? (i := 89) rfl))) (hts _ (tb_t1 (List.mem_of_getElem? (i := 2) rfl))) h1 hA, h2⟩
set_option maxHeartbeats 4000000 in
set_option maxRecDepth 100000 in
theorem st_NEEDS {s : State} {args : Array Value} (hn : narrow_1.before args s = true) (hts : ∀ w ∈ lw_tbl, w.before args s = true) : ∃ t0 : Nat, va_Z "ProofDeskModel" "NEEDS" "[I" (.ref t0) (fun q => s.heap.size ≤ q) s s.heap ∧ va_T .int t0 13 (fun j => .int (kNEEDS j)) (fun q => s.heap.size ≤ q) s s.heap := by
  have hA : ∀ a : Nat, a < s.heap.size → ¬ (fun q => s.heap.size ≤ q) a := fun a h1 h2 => by have h3 : s.heap.size ≤ a := h2; omega
  have hel : ∀ j : Nat, j < 13 → (Term.elem (.static "ProofDeskModel" "NEEDS" "[I") (.int (Int32.ofNat j))).eval args s none [] s = some (.int (kNEEDS j)) := fun j hj => match j, hj with
    | 0, _ => va_eqt (andR (andR (andL (andL (andL (andL (andR (andL (andL (andL (hn)))))))))))
    | 1, _ => va_eqt (andL (andL (andR (andL (andL (andL (andR (andL (andL (andL (hn)))))))))))
    | 2, _ => va_eqt (andR (andL (andR (andL (andL (andL (andR (andL (andL (andL (hn)))))))))))
    | 3, _ => va_eqt (andL (andR (andR (andL (andL (andL (andR (andL (andL (andL (hn)))))))))))
    | 4, _ => va_eqt (andR (andR (andR (andL (andL (andL (andR (andL (andL (andL (hn)))))))))))
    | 5, _ => va_eqt (andL (andL (andL (andR (andL (andL (andR (andL (andL (andL (hn)))))))))))
    | 6, _ => va_eqt (andR (andL (andL (andR (andL (andL (andR (andL (andL (andL (hn)))))))))))
    | 7, _ => va_eqt (andL (andR (andL (andR (andL (andL (andR (andL (andL (andL (hn)))))))))))
    | 8, _ => va_eqt (andR (andR (andL (andR (andL (andL (andR (andL (andL (andL (hn)))))))))))
    | 9, _ => va_eqt (andL (andL (andR (andR (andL (andL (andR (andL (andL (andL (hn)))))))))))
    | 10, _ => va_eqt (andR (andL (andR (andR (andL (andL (andR (andL (andL (andL (hn)))))))))))
    | 11, _ => va_eqt (andL (andR (andR (andR (andL (andL (andR (andL (andL (andL (hn)))))))))))
    | 12, _ => va_eqt (andR (andR (andR (andR (andL (andL (andR (andL (andL (andL (hn)))))))))))
    | k + 13, h => absurd h (by omega)
  obtain ⟨t0, h1, h2⟩ := va_Tof (tm := .static "ProofDeskModel" "NEEDS" "[I") (ty := .int) (N := 13) (f := fun j => .int (kNEEDS j)) (A := (fun q => s.heap.size ≤ q)) (by decide) (andR (andL (andL (andL (andL (andL (andR (andL (andL (andL (hn))))))))))) (va_eqt (andL (andR (andL (andL (andL (andL (andR (andL (andL (andL (hn)))))))))))) hel hA
  exact ⟨t0, va_Zref (hts _ (tb_t6 (List.mem_of_getElem? (i := 143) rfl))) (hts _ (tb_t1 (List.mem_of_getElem? (i := 9) rfl))) h1 hA, h2⟩
set_option maxHeartbeats 4000000 in
set_option maxRecDepth 100000 in
theorem st_SF {s : State} {args : Array Value} (hn : narrow_1.before args s = true) (hts : ∀ w ∈ lw_tbl, w.before args s = true) : ∃ t : Nat → Nat, SF t (fun q => s.heap.size ≤ q) s := by
  obtain ⟨t0, a1, a2⟩ := st_KINDS hn hts
  obtain ⟨t1, b1, b2⟩ := st_LETTER_WORDS hn hts
  obtain ⟨t2, c1, c2⟩ := st_NEEDS hn hts
  have hA : ∀ a : Nat, a < s.heap.size → ¬ (fun q => s.heap.size ≤ q) a := fun a h1 h2 => by have h3 : s.heap.size ≤ a := h2; omega
  exact ⟨fun k => if k = 0 then t0 else if k = 1 then t1 else t2, a1, a2, b1, b2, c1, c2, vx_Zqof (hts _ (tb_t2 (List.mem_of_getElem? (i := 229) rfl))) (hts _ (tb_t1 (List.mem_of_getElem? (i := 10) rfl))) (andR (andR (andL (andR (andL (andL (andL (andL (andL (andL (hn))))))))))) hA, vx_Zqof (hts _ (tb_t2 (List.mem_of_getElem? (i := 231) rfl))) (hts _ (tb_t1 (List.mem_of_getElem? (i := 10) rfl))) (andL (andL (andR (andR (andL (andL (andL (andL (andL (andL (hn))))))))))) hA⟩
theorem st_R {own tx : String} {k a : Nat} {args : Array Value} {s : State} (h1 : (Cond.stringRef own k tx).before args s = true) (h2 : (Term.string own k).eval args s none [] s = some (.ref a)) : vk_R own k tx a s := by
  refine ⟨?_, ?_⟩
  · simpa only [Cond.before, Cond.holds, Cond.value] using h1
  · first | exact h2 | simpa [Term.eval] using h2
set_option maxHeartbeats 4000000 in
set_option maxRecDepth 100000 in
theorem st_EX {s : State} {args : Array Value} (hn : narrow_1.before args s = true) (hts : ∀ w ∈ lw_tbl, w.before args s = true) : ∃ ts : Nat → Nat, EX ts s := by
  obtain ⟨a0, _, _, _, q0, -⟩ := Cond.exactly_spec (args := args) (first := s) (o := none) (s := s) (idx := []) (andR (andL (andL (andR (andR (andR (andR (andR (andL (andL (hn)))))))))))
  obtain ⟨a1, _, _, _, q1, -⟩ := Cond.exactly_spec (args := args) (first := s) (o := none) (s := s) (idx := []) (andR (andR (andL (andR (andR (andL (andL (andL (andR (andL (hn)))))))))))
  obtain ⟨a2, _, _, _, q2, -⟩ := Cond.exactly_spec (args := args) (first := s) (o := none) (s := s) (idx := []) (andR (andR (andL (andR (andR (andR (andL (andL (andR (andL (hn)))))))))))
  obtain ⟨a3, _, _, _, q3, -⟩ := Cond.exactly_spec (args := args) (first := s) (o := none) (s := s) (idx := []) (andR (andL (andL (andL (andR (andL (andR (andL (andR (andL (hn)))))))))))
  obtain ⟨a4, _, _, _, q4, -⟩ := Cond.exactly_spec (args := args) (first := s) (o := none) (s := s) (idx := []) (andL (andR (andL (andR (andL (andR (andR (andL (andR (andL (hn)))))))))))
  obtain ⟨a5, _, _, _, q5, -⟩ := Cond.exactly_spec (args := args) (first := s) (o := none) (s := s) (idx := []) (andL (andR (andL (andL (andL (andL (andL (andR (andR (andL (hn)))))))))))
  obtain ⟨a6, _, _, _, q6, -⟩ := Cond.exactly_spec (args := args) (first := s) (o := none) (s := s) (idx := []) (andL (andL (andL (andL (andL (andR (andL (andR (andR (andL (hn)))))))))))
  obtain ⟨a7, _, _, _, q7, -⟩ := Cond.exactly_spec (args := args) (first := s) (o := none) (s := s) (idx := []) (andR (andL (andL (andL (andR (andL (andR (andR (andR (andL (hn)))))))))))
  obtain ⟨a8, _, _, _, q8, -⟩ := Cond.exactly_spec (args := args) (first := s) (o := none) (s := s) (idx := []) (andR (andR (andR (andR (andL (andR (andR (andR (andR (andL (hn)))))))))))
  obtain ⟨a9, _, _, _, q9, -⟩ := Cond.exactly_spec (args := args) (first := s) (o := none) (s := s) (idx := []) (andL (andL (andR (andL (andR (andL (andL (andL (andL (andR (hn)))))))))))
  obtain ⟨a10, _, _, _, q10, -⟩ := Cond.exactly_spec (args := args) (first := s) (o := none) (s := s) (idx := []) (andR (andR (andL (andR (andR (andR (andL (andL (andL (andR (hn)))))))))))
  obtain ⟨a11, _, _, _, q11, -⟩ := Cond.exactly_spec (args := args) (first := s) (o := none) (s := s) (idx := []) (andL (andR (andL (andR (andR (andL (andR (andL (andL (andR (hn)))))))))))
  obtain ⟨a12, _, _, _, q12, -⟩ := Cond.exactly_spec (args := args) (first := s) (o := none) (s := s) (idx := []) (andR (andR (andL (andL (andL (andL (andL (andR (andL (andR (hn)))))))))))
  obtain ⟨a13, _, _, _, q13, -⟩ := Cond.exactly_spec (args := args) (first := s) (o := none) (s := s) (idx := []) (andR (andL (andL (andR (andL (andR (andL (andR (andL (andR (hn)))))))))))
  obtain ⟨a14, _, _, _, q14, -⟩ := Cond.exactly_spec (args := args) (first := s) (o := none) (s := s) (idx := []) (andL (andL (andR (andR (andL (andL (andR (andR (andL (andR (hn)))))))))))
  obtain ⟨a15, _, _, _, q15, -⟩ := Cond.exactly_spec (args := args) (first := s) (o := none) (s := s) (idx := []) (andL (andR (andR (andR (andL (andR (andR (andR (andL (andR (hn)))))))))))
  obtain ⟨a16, _, _, _, q16, -⟩ := Cond.exactly_spec (args := args) (first := s) (o := none) (s := s) (idx := []) (andR (andR (andL (andL (andR (andL (andL (andL (andR (andR (hn)))))))))))
  obtain ⟨a17, _, _, _, q17, -⟩ := Cond.exactly_spec (args := args) (first := s) (o := none) (s := s) (idx := []) (andR (andL (andL (andL (andR (andR (andR (andL (andL (andL (hn)))))))))))
  obtain ⟨a18, _, _, _, q18, -⟩ := Cond.exactly_spec (args := args) (first := s) (o := none) (s := s) (idx := []) (andR (andL (andR (andL (andL (andL (andL (andR (andL (andL (hn)))))))))))
  obtain ⟨a19, _, _, _, q19, -⟩ := Cond.exactly_spec (args := args) (first := s) (o := none) (s := s) (idx := []) (andL (andR (andL (andR (andL (andR (andL (andR (andL (andL (hn)))))))))))
  obtain ⟨a20, _, _, _, q20, -⟩ := Cond.exactly_spec (args := args) (first := s) (o := none) (s := s) (idx := []) (andR (andR (andL (andR (andR (andR (andL (andL (andR (andR (hn)))))))))))
  obtain ⟨a21, _, _, _, q21, -⟩ := Cond.exactly_spec (args := args) (first := s) (o := none) (s := s) (idx := []) (andL (andL (andL (andL (andL (andR (andR (andL (andR (andR (hn)))))))))))
  obtain ⟨a22, _, _, _, q22, -⟩ := Cond.exactly_spec (args := args) (first := s) (o := none) (s := s) (idx := []) (andR (andL (andR (andL (andR (andL (andL (andR (andR (andR (hn)))))))))))
  obtain ⟨a23, _, _, _, q23, -⟩ := Cond.exactly_spec (args := args) (first := s) (o := none) (s := s) (idx := []) (andR (andR (andR (andR (andL (andL (andR (andR (andL (andL (hn)))))))))))
  obtain ⟨a24, _, _, _, q24, -⟩ := Cond.exactly_spec (args := args) (first := s) (o := none) (s := s) (idx := []) (andR (andL (andL (andL (andL (andL (andR (andR (andR (andR (hn)))))))))))
  exact ⟨fun k => [a0, a1, a2, a3, a4, a5, a6, a7, a8, a9, a10, a11, a12, a13, a14, a15, a16, a17, a18, a19, a20, a21, a22, a23, a24].getD k 0, ⟨⟨va_Nw.of rfl (hts _ (tb_t3 (List.mem_of_getElem? (i := 165) rfl))), va_Nw.of rfl (hts _ (tb_t3 (List.mem_of_getElem? (i := 193) rfl))), va_Nw.of rfl (hts _ (tb_t2 (List.mem_of_getElem? (i := 204) rfl)))⟩, va_Nw.of rfl (hts _ (tb_t2 (List.mem_of_getElem? (i := 206) rfl))), va_Nw.of rfl (hts _ (tb_t2 (List.mem_of_getElem? (i := 208) rfl))), va_Nw.of rfl (hts _ (tb_t2 (List.mem_of_getElem? (i := 210) rfl)))⟩, ⟨va_Nc.of (andL (andL (andR (andL (andL (andR (andR (andL (andL (andL (hn))))))))))), va_Nc.of (andR (andR (andR (andR (andL (andR (andR (andL (andL (andL (hn))))))))))), va_Nc.of (andR (andL (andL (andR (andR (andL (andR (andL (andL (andL (hn))))))))))), va_Nc.of (andL (andL (andL (andL (andR (andR (andR (andL (andL (andL (hn))))))))))), va_Nc.of (andL (andR (andL (andR (andR (andL (andR (andL (andL (andL (hn))))))))))), va_Nc.of (andR (andL (andR (andL (andL (andR (andR (andL (andL (andL (hn)))))))))))⟩, st_R (hts _ (tb_t3 (List.mem_of_getElem? (i := 172) rfl))) q0, st_R (hts _ (tb_t3 (List.mem_of_getElem? (i := 200) rfl))) q1, st_R (hts _ (tb_t3 (List.mem_of_getElem? (i := 219) rfl))) q2, st_R (hts _ (tb_t3 (List.mem_of_getElem? (i := 220) rfl))) q3, st_R (hts _ (tb_t3 (List.mem_of_getElem? (i := 222) rfl))) q4, st_R (hts _ (tb_t3 (List.mem_of_getElem? (i := 224) rfl))) q5, st_R (hts _ (tb_t3 (List.mem_of_getElem? (i := 233) rfl))) q6, st_R (hts _ (tb_t4 (List.mem_of_getElem? (i := 13) rfl))) q7, st_R (hts _ (tb_t4 (List.mem_of_getElem? (i := 14) rfl))) q8, st_R (hts _ (tb_t4 (List.mem_of_getElem? (i := 24) rfl))) q9, st_R (hts _ (tb_t4 (List.mem_of_getElem? (i := 62) rfl))) q10, st_R (hts _ (tb_t4 (List.mem_of_getElem? (i := 70) rfl))) q11, st_R (hts _ (tb_t4 (List.mem_of_getElem? (i := 101) rfl))) q12, st_R (hts _ (tb_t4 (List.mem_of_getElem? (i := 117) rfl))) q13, st_R (hts _ (tb_t4 (List.mem_of_getElem? (i := 137) rfl))) q14, st_R (hts _ (tb_t4 (List.mem_of_getElem? (i := 138) rfl))) q15, st_R (hts _ (tb_t4 (List.mem_of_getElem? (i := 221) rfl))) q16, st_R (hts _ (tb_t3 (List.mem_of_getElem? (i := 3) rfl))) q17, st_R (hts _ (tb_t3 (List.mem_of_getElem? (i := 50) rfl))) q18, st_R (hts _ (tb_t3 (List.mem_of_getElem? (i := 84) rfl))) q19, st_R (hts _ (tb_t5 (List.mem_of_getElem? (i := 17) rfl))) q20, st_R (hts _ (tb_t5 (List.mem_of_getElem? (i := 65) rfl))) q21, st_R (hts _ (tb_t5 (List.mem_of_getElem? (i := 66) rfl))) q22, st_R (hts _ (tb_t3 (List.mem_of_getElem? (i := 122) rfl))) q23, st_R (hts _ (tb_t5 (List.mem_of_getElem? (i := 82) rfl))) q24⟩
set_option maxHeartbeats 4000000 in
set_option maxRecDepth 100000 in
theorem st_K {s : State} {args : Array Value} (hts : ∀ w ∈ lw_tbl, w.before args s = true) : ∃ (D : va_G) (y : Nat → ClassId), va_K D vwCl (tysA y) s := by
  obtain ⟨c0, iS0, h0⟩ := u_known (C := RX0) (T := TX0) (N := 6) (n := 6) hts (fun w h => aw_tbl (hwX0 w h)) (hts _ (aw_tbl aX_X0))
  obtain ⟨c1, iS1, h1⟩ := u_known (C := RX1) (T := TX1) (N := 8) (n := 8) hts (fun w h => aw_tbl (hwX1 w h)) (hts _ (aw_tbl aX_X1))
  obtain ⟨c2, iS2, h2⟩ := u_known (C := RX2) (T := TX2) (N := 6) (n := 6) hts (fun w h => aw_tbl (hwX2 w h)) (hts _ (aw_tbl aX_X2))
  obtain ⟨c3, iS3, h3⟩ := u_known (C := RX3) (T := TX3) (N := 12) (n := 12) hts (fun w h => aw_tbl (hwX3 w h)) (hts _ (aw_tbl aX_X3))
  obtain ⟨c4, iS4, h4⟩ := u_known (C := RX4) (T := TX4) (N := 4) (n := 4) hts (fun w h => aw_tbl (hwX4 w h)) (hts _ (aw_tbl aX_X4))
  obtain ⟨c5, iS5, h5⟩ := u_known (C := RX5) (T := TX5) (N := 5) (n := 5) hts (fun w h => aw_tbl (hwX5 w h)) (hts _ (aw_tbl aX_X5))
  obtain ⟨c6, iS6, h6⟩ := u_known (C := RX6) (T := TX6) (N := 9) (n := 9) hts (fun w h => aw_tbl (hwX6 w h)) (hts _ (aw_tbl aX_X6))
  obtain ⟨c7, iS7, h7⟩ := u_known (C := RX7) (T := TX7) (N := 6) (n := 6) hts (fun w h => aw_tbl (hwX7 w h)) (hts _ (aw_tbl aX_X7))
  obtain ⟨c8, iS8, h8⟩ := u_known (C := RX8) (T := TX8) (N := 42) (n := 42) hts (fun w h => aw_tbl (hwX8 w h)) (hts _ (aw_tbl aX_X8))
  obtain ⟨y0, k0, m0, a0, b0, d0⟩ := Cond.arrayClass_spec (args := args) (first := s) (o := none) (s := s) (idx := []) (hts _ (aw_tbl aA_int))
  obtain ⟨y1, k1, m1, a1, b1, d1⟩ := Cond.arrayClass_spec (args := args) (first := s) (o := none) (s := s) (idx := []) (hts _ (aw_tbl aA_byte))
  obtain ⟨y2, k2, m2, a2, b2, d2⟩ := Cond.arrayClass_spec (args := args) (first := s) (o := none) (s := s) (idx := []) (hts _ (aw_tbl aA_long))
  obtain ⟨y3, k3, m3, a3, b3, d3⟩ := Cond.arrayClass_spec (args := args) (first := s) (o := none) (s := s) (idx := []) (hts _ (aw_tbl aA_boolean))
  refine ⟨(fun k => [c0, c1, c2, c3, c4, c5, c6, c7, c8].getD k c0, fun k => [iS0, iS1, iS2, iS3, iS4, iS5, iS6, iS7, iS8].getD k iS0), fun k => [y0, y1, y2, y3].getD k y0, ?_, ?_⟩
  · intro k q hq
    match k, hq with
    | 0, hq => cases hq; exact h0
    | 1, hq => cases hq; exact h1
    | 2, hq => cases hq; exact h2
    | 3, hq => cases hq; exact h3
    | 4, hq => cases hq; exact h4
    | 5, hq => cases hq; exact h5
    | 6, hq => cases hq; exact h6
    | 7, hq => cases hq; exact h7
    | 8, hq => cases hq; exact h8
    | k + 9, hq => simp [vwCl] at hq
  · intro k q hq
    match k, hq with
    | 0, hq => cases hq; exact ⟨fun n z => ⟨fun k h => (by cases h), k0, b0, m0, d0⟩, a0⟩
    | 1, hq => cases hq; exact ⟨fun n z => ⟨fun k h => (by cases h), k1, b1, m1, d1⟩, a1⟩
    | 2, hq => cases hq; exact ⟨fun n z => ⟨fun k h => (by cases h), k2, b2, m2, d2⟩, a2⟩
    | 3, hq => cases hq; exact ⟨fun n z => ⟨fun k h => (by cases h), k3, b3, m3, d3⟩, a3⟩
    | k + 4, hq => simp [tysA] at hq
set_option maxHeartbeats 4000000 in
set_option maxRecDepth 100000 in
theorem law_loop {p : Program} {l : Launch} {e : Env} {s : State} {m : MethodId} {below : List Frame} {meth : Method} {c : Code} {D : va_G} {y : Nat → ClassId} {a b t ts : Nat → Nat} {o z L : Nat} {xs : Nat → Int32} {meth0 : meth.locks = false} (C : LX p l s m meth c D y a b t ts o z L xs) :
    ∀ (n j : Nat), j + n = 513 → ∀ (x4 : Int32), x4 = nI (6 * j) → 6 * j ≤ L → ∀ (σ τ : St) (f : Nat → Int64) (H : Heap) (locs : List Loc) (ls : Array Slot), RR σ τ → va_P D vwCl (wO y a o f σ) H → va_P D vwCl (wM y b τ) H → va_S (fun q => s.heap.size ≤ q) s.heap H locs → lv_has ls 9 [(0, .ref z), (1, .ref (a 0)), (2, .ref (b 0)), (3, .ref o), (4, .int x4)] → W p l e room_1 s m #[Value.ref z] below meth c H locs (68 + 200 * j) (71455 + 1600 * j) (lw_Z below #[Value.ref z] s) (F0 m 23 ls []) := by
  have hx := C.1.1
  have hb := C.1.2.1
  have hL := C.2.1.2.2
  have hzl := C.2.1.2.1
  have hzA : ¬ (fun q => s.heap.size ≤ q) z := by show ¬ s.heap.size ≤ z; omega
  intro n
  induction n with
  | zero => intro j h1 x4 h2 h3; omega
  | succ n ih =>
    intro j hj x4 e4 h3 σ τ f H locs ls hR hPc hPm hS hl
    have hnext : 6 * j + 6 ≤ L → ∀ (σ τ : St) (f : Nat → Int64) (H : Heap) (locs : List Loc) (ls : Array Slot), RR σ τ → va_P D vwCl (wO y a o f σ) H → va_P D vwCl (wM y b τ) H → va_S (fun q => s.heap.size ≤ q) s.heap H locs → lv_has ls 9 [(0, .ref z), (1, .ref (a 0)), (2, .ref (b 0)), (3, .ref o), (4, .int x4)] → W p l e room_1 s m #[Value.ref z] below meth c H locs (68 + 200 * j + 200) (71455 + 1600 * j + 1600) (lw_Z below #[Value.ref z] s) (F0 m 1557 ls []) := by
      intro h6 σ τ f H locs ls hR hPc hPm hS hl
      obtain ⟨x5, e5⟩ : ∃ y : Int32, y = x4 + 6 := ⟨_, rfl⟩
      refine lv_iinc (v := x5) (lv' := [(4, .int x5), (0, .ref z), (1, .ref (a 0)), (2, .ref (b 0)), (3, .ref o)]) hx hb dL_law_1557 hl (k := 4) rfl (by rw [e5]; rfl) (by decide) rfl (fun ls hl => ?_)
      refine lv_goto (tgt := 23) hx hb dL_law_1560 (by decide) ?_
      refine W.widen (k := 68 + 200 * (j + 1)) (n := 71455 + 1600 * (j + 1)) (by omega) (by omega) ?_
      exact ih (j + 1) (by omega) x5 (by rw [e5, e4, show (6 : Int32) = nI 6 from rfl, nI_add]; congr 1) (by omega) σ τ f H locs ls hR hPc hPm hS (lv_sub hl [1, 2, 3, 4, 0] rfl)
    refine lv_iload hx hb dL_law_23 (lv_at hl 4 rfl) ?_
    refine lv_aload_n hx hb dL_law_25 rfl (lv_at hl 0 rfl) ?_
    refine va_slen hx hb C.2.1.1 hzl hzA hS dL_law_26 ?_
    refine lv_bipush (v := 6) hx hb dL_law_27 (by decide) ?_
    refine lv_isub hx hb dL_law_29 ?_
    refine lv_icmp_gt (tgt := 1563) hx hb dL_law_30 (by decide) (fun c1 => ?_) (fun c1 => ?_)
    · refine lv_iconst (v := 1) hx hb dL_law_1563 (by decide) ?_
      refine va_forget (fun q hq => hS.2.2 q hq) ?_
      refine W.widen (k := 601024) (n := 7293033) (by omega) (by omega) ?_
      refine W.base ?_
      exact lw_ret (Drawn.sameBut.refl s.drawn lw_cs) hx hb C.1.2.2.2.2.2.2 meth0 dL_law_1564
    · have h6 : 6 * j + 6 ≤ L := by
        have e1 := pk_sub_toInt (a := L) (b := 6) (by omega) (by omega)
        have e2 := nI_toInt (n := 6 * j) (by omega)
        have e3 : ¬ (nI L - nI 6).toInt < (nI (6 * j)).toInt := fun h => c1 (by rw [e4]; exact Int32.lt_iff_toInt_lt.mpr h)
        omega
      have hin : ∀ d : Nat, d < 6 → vp_in (x4 + nI d) L := fun d hd => by rw [e4, nI_add]; exact vp_in_nI (by omega) (by omega)
      refine lv_aload_n hx hb dL_law_33 rfl (lv_at hl 0 rfl) ?_
      refine lv_iload hx hb dL_law_34 (lv_at hl 4 rfl) ?_
      refine va_sld hx hb C.2.1.1 hzl hzA hS (by rw [e4]; exact vp_in_nI (by omega) (by omega)) dL_law_36 ?_
      refine lv_bipush (v := 31) hx hb dL_law_37 (by decide) ?_
      refine lv_iand hx hb dL_law_39 ?_
      refine lv_topi (fun v ev => ?_)
      have hc : 68 + 200 * j + 200 ≤ 601024 ∧ 71455 + 1600 * j + 1600 ≤ 7293033 := by omega
      by_cases k0 : v = 0
      · refine lv_tableIn (tgt := 156) hx hb dL_law_40 (by rw [k0]; decide) (by rw [k0]; decide) (by rw [k0]; rfl) (by decide) ?_
        exact law_feed C hc hin hR hPc hPm hS hl (hnext h6)
      have s0 := sw_ne (k := 0) k0 rfl
      by_cases k1 : v = 1
      · refine lv_tableIn (tgt := 260) hx hb dL_law_40 (by rw [k1]; decide) (by rw [k1]; decide) (by rw [k1]; rfl) (by decide) ?_
        exact law_trim C hc hin hR hPc hPm hS hl (hnext h6)
      have s1 := sw_ne (k := 1) k1 rfl
      by_cases k2 : v = 2
      · refine lv_tableIn (tgt := 316) hx hb dL_law_40 (by rw [k2]; decide) (by rw [k2]; decide) (by rw [k2]; rfl) (by decide) ?_
        exact law_read C hc hR hPc hPm hS hl (hnext h6)
      have s2 := sw_ne (k := 2) k2 rfl
      by_cases k3 : v = 3
      · refine lv_tableIn (tgt := 329) hx hb dL_law_40 (by rw [k3]; decide) (by rw [k3]; decide) (by rw [k3]; rfl) (by decide) ?_
        exact law_errorAt C hc hR hPc hPm hS hl (hnext h6)
      have s3 := sw_ne (k := 3) k3 rfl
      by_cases k4 : v = 4
      · refine lv_tableIn (tgt := 342) hx hb dL_law_40 (by rw [k4]; decide) (by rw [k4]; decide) (by rw [k4]; rfl) (by decide) ?_
        exact law_make C hc hin hR hPc hPm hS hl (hnext h6)
      have s4 := sw_ne (k := 4) k4 rfl
      by_cases k5 : v = 5
      · refine lv_tableIn (tgt := 422) hx hb dL_law_40 (by rw [k5]; decide) (by rw [k5]; decide) (by rw [k5]; rfl) (by decide) ?_
        exact law_formula C hc hin hR hPc hPm hS hl (hnext h6)
      have s5 := sw_ne (k := 5) k5 rfl
      by_cases k6 : v = 6
      · refine lv_tableIn (tgt := 490) hx hb dL_law_40 (by rw [k6]; decide) (by rw [k6]; decide) (by rw [k6]; rfl) (by decide) ?_
        exact law_isTrue C hc hin hR hPc hPm hS hl (hnext h6)
      have s6 := sw_ne (k := 6) k6 rfl
      by_cases k7 : v = 7
      · refine lv_tableIn (tgt := 565) hx hb dL_law_40 (by rw [k7]; decide) (by rw [k7]; decide) (by rw [k7]; rfl) (by decide) ?_
        exact law_write C hc hin hR hPc hPm hS hl (hnext h6)
      have s7 := sw_ne (k := 7) k7 rfl
      by_cases k8 : v = 8
      · refine lv_tableIn (tgt := 621) hx hb dL_law_40 (by rw [k8]; decide) (by rw [k8]; decide) (by rw [k8]; rfl) (by decide) ?_
        exact law_byteAt C hc hin hR hPc hPm hS hl (hnext h6)
      have s8 := sw_ne (k := 8) k8 rfl
      by_cases k9 : v = 9
      · refine lv_tableIn (tgt := 677) hx hb dL_law_40 (by rw [k9]; decide) (by rw [k9]; decide) (by rw [k9]; rfl) (by decide) ?_
        exact law_begin C hc hR hPc hPm hS hl (hnext h6)
      have s9 := sw_ne (k := 9) k9 rfl
      by_cases k10 : v = 10
      · refine lv_tableIn (tgt := 690) hx hb dL_law_40 (by rw [k10]; decide) (by rw [k10]; decide) (by rw [k10]; rfl) (by decide) ?_
        exact law_premise C hc hin hR hPc hPm hS hl (hnext h6)
      have s10 := sw_ne (k := 10) k10 rfl
      by_cases k11 : v = 11
      · refine lv_tableIn (tgt := 746) hx hb dL_law_40 (by rw [k11]; decide) (by rw [k11]; decide) (by rw [k11]; rfl) (by decide) ?_
        exact law_assume C hc hin hR hPc hPm hS hl (hnext h6)
      have s11 := sw_ne (k := 11) k11 rfl
      by_cases k12 : v = 12
      · refine lv_tableIn (tgt := 802) hx hb dL_law_40 (by rw [k12]; decide) (by rw [k12]; decide) (by rw [k12]; rfl) (by decide) ?_
        exact law_close C hc hR hPc hPm hS hl (hnext h6)
      have s12 := sw_ne (k := 12) k12 rfl
      by_cases k13 : v = 13
      · refine lv_tableIn (tgt := 846) hx hb dL_law_40 (by rw [k13]; decide) (by rw [k13]; decide) (by rw [k13]; rfl) (by decide) ?_
        exact law_step C hc hin hR hPc hPm hS hl (hnext h6)
      have s13 := sw_ne (k := 13) k13 rfl
      by_cases k14 : v = 14
      · refine lv_tableIn (tgt := 950) hx hb dL_law_40 (by rw [k14]; decide) (by rw [k14]; decide) (by rw [k14]; rfl) (by decide) ?_
        exact law_undo C hc hR hPc hPm hS hl (hnext h6)
      have s14 := sw_ne (k := 14) k14 rfl
      by_cases k15 : v = 15
      · refine lv_tableIn (tgt := 994) hx hb dL_law_40 (by rw [k15]; decide) (by rw [k15]; decide) (by rw [k15]; rfl) (by decide) ?_
        exact law_count C hc hin hR hPc hPm hS hl (hnext h6)
      have s15 := sw_ne (k := 15) k15 rfl
      by_cases k16 : v = 16
      · refine lv_tableIn (tgt := 1050) hx hb dL_law_40 (by rw [k16]; decide) (by rw [k16]; decide) (by rw [k16]; rfl) (by decide) ?_
        exact law_line C hc hin hR hPc hPm hS hl (hnext h6)
      have s16 := sw_ne (k := 16) k16 rfl
      by_cases k17 : v = 17
      · refine lv_tableIn (tgt := 1118) hx hb dL_law_40 (by rw [k17]; decide) (by rw [k17]; decide) (by rw [k17]; rfl) (by decide) ?_
        exact law_box C hc hin hR hPc hPm hS hl (hnext h6)
      have s17 := sw_ne (k := 17) k17 rfl
      by_cases k18 : v = 18
      · refine lv_tableIn (tgt := 1186) hx hb dL_law_40 (by rw [k18]; decide) (by rw [k18]; decide) (by rw [k18]; rfl) (by decide) ?_
        exact law_fails C hc hin hR hPc hPm hS hl (hnext h6)
      have s18 := sw_ne (k := 18) k18 rfl
      by_cases k19 : v = 19
      · refine lv_tableIn (tgt := 1242) hx hb dL_law_40 (by rw [k19]; decide) (by rw [k19]; decide) (by rw [k19]; rfl) (by decide) ?_
        exact law_hint C hc hin hR hPc hPm hS hl (hnext h6)
      have s19 := sw_ne (k := 19) k19 rfl
      by_cases k20 : v = 20
      · refine lv_tableIn (tgt := 1310) hx hb dL_law_40 (by rw [k20]; decide) (by rw [k20]; decide) (by rw [k20]; rfl) (by decide) ?_
        exact law_end C hc hR hPc hPm hS hl (hnext h6)
      have s20 := sw_ne (k := 20) k20 rfl
      by_cases k21 : v = 21
      · refine lv_tableIn (tgt := 1354) hx hb dL_law_40 (by rw [k21]; decide) (by rw [k21]; decide) (by rw [k21]; rfl) (by decide) ?_
        exact law_theorem C hc hin hR hPc hPm hS hl (hnext h6)
      have s21 := sw_ne (k := 21) k21 rfl
      by_cases k22 : v = 22
      · refine lv_tableIn (tgt := 1422) hx hb dL_law_40 (by rw [k22]; decide) (by rw [k22]; decide) (by rw [k22]; rfl) (by decide) ?_
        exact law_instance C hc hin hR hPc hPm hS hl (hnext h6)
      have s22 := sw_ne (k := 22) k22 rfl
      by_cases k23 : v = 23
      · refine lv_tableIn (tgt := 1502) hx hb dL_law_40 (by rw [k23]; decide) (by rw [k23]; decide) (by rw [k23]; rfl) (by decide) ?_
        exact law_thrift C hc hR hPc hPm hS hl (hnext h6)
      have s23 := sw_ne (k := 23) k23 rfl
      by_cases k24 : v = 24
      · refine lv_tableIn (tgt := 1543) hx hb dL_law_40 (by rw [k24]; decide) (by rw [k24]; decide) (by rw [k24]; rfl) (by decide) ?_
        exact law_digest C hc hR hPc hPm hS hl (hnext h6)
      have s24 := sw_ne (k := 24) k24 rfl
      refine lv_tableOut (tgt := 1557) hx hb dL_law_40 (by omega) (by decide) ?_
      refine W.widen (k := 68 + 200 * j + 200) (n := 71455 + 1600 * j + 1600) (by omega) (by omega) ?_
      exact hnext h6 σ τ f H locs ls hR hPc hPm hS hl
theorem st_fl {l : Launch} (h : l.flags = flags0) : l.stackTraces = false := by unfold Launch.stackTraces; rw [h]; decide
set_option maxHeartbeats 4000000 in
set_option maxRecDepth 100000 in
/-- THE LAW, from its entry -/
theorem whole_start {p : Program} {e : Env} {s : State} {m : MethodId} {below : List Frame} {meth : Method} {c : Code} (l : Launch) (hflags : l.flags = flags0) {b L : Nat} {xs : Nat → Int32} (hL : L ≤ 3072) (C0 : lw_At p s m meth c b L xs) : W p l e room_1 s m #[Value.ref b] below meth c s.heap [] 0 0 (lw_Z below #[Value.ref b] s) (entryFrame m ([Value.ref b] : List Value).toArray 9) := by
  obtain ⟨hx, hb, hr, hml, hown, htb, hX, hbl, hlocks, hgv⟩ := id C0
  have hn : narrow_1.before #[Value.ref b] s = true := andR hgv
  have hown : s.vm.findClass RL = some m.cls := hown
  obtain ⟨t, hF⟩ := st_SF hn htb
  obtain ⟨ts, hE⟩ := st_EX hn htb
  obtain ⟨D, y, hK⟩ := st_K htb
  have hts : ∀ w ∈ (Cond.initialized RX7 :: AW), w.before #[Value.ref b] s = true := fun w h => (List.mem_cons.mp h).elim (fun e => by rw [e]; exact htb _ (aw_tbl aN_X7)) (fun h => htb w (aw_tbl h))
  have hfl : l.stackTraces = false := st_fl hflags
  have hNX : NX s := ⟨va_Nw.of rfl (htb _ (tb_t1 (List.mem_of_getElem? (i := 30) rfl))), va_Nw.of rfl (htb _ (tb_t1 (List.mem_of_getElem? (i := 151) rfl)))⟩
  have hw7 : ∀ w ∈ wsX70, w.before #[Value.ref b] s = true := fun w h => htb w (aw_tbl (hwX7 w h))
  have hw8 : ∀ w ∈ wsX80, w.before #[Value.ref b] s = true := fun w h => htb w (aw_tbl (hwX8 w h))
  obtain ⟨A, hAe⟩ : ∃ A : Nat → Prop, A = fun q => s.heap.size ≤ q := ⟨_, rfl⟩
  have hA : ∀ q : Nat, s.heap.size ≤ q → A q := fun q h => by rw [hAe]; exact h
  have hS : va_S A s.heap s.heap [] := va_S.rf
  have hP : va_P D vwCl [] s.heap := fun k q h => by simp at h
  have hD : va_D A [] := ⟨fun i j p q h => by simp at h, fun k q h => by simp at h⟩
  have hl := lv_entry ([.ref b]) (n := 9) (Nat.le_of_ble_eq_true rfl)
  rw [lg_entry_eq]
  generalize (lg_sl ([.ref b]) ++ List.replicate (9 - (lg_sl ([.ref b])).length) Slot.unset).toArray = ls at hl ⊢
  have hl : lv_has ls 9 [(0, .ref b)] := hl
  refine va_new (ci := 7) (fs := [.null, .null, .null, .null, .null, .null]) (C := RX7) (T := TX7) (N := 6) hx hb hw7 (fun _ h => h) tyX7 tyX7_ok hown (htb _ (aw_tbl aL_L_8)) (htb _ (aw_tbl aX_X7)) (htb _ (aw_tbl aN_X7)) hK hP hD hS hA rfl (fun j hj => by rcases (show j = 0 ∨ j = 1 ∨ j = 2 ∨ j = 3 ∨ j = 4 ∨ j = 5 by omega) with rfl | rfl | rfl | rfl | rfl | rfl <;> rfl) (by show _ ≤ 601024; omega) (by show _ ≤ 7293033; omega) dL_law_0 (fun x0 H hP hD hS => ?_)
  have hP : va_P D vwCl [(x0, .inr (7, [.null, .null, .null, .null, .null, .null]))] H := hP
  have hD : va_D A [(x0, .inr (7, [.null, .null, .null, .null, .null, .null]))] := hD
  refine W.widen (k := 1) (n := 6) (by omega) (by omega) ?_
  refine lv_dup hx hb dL_law_3 rfl ?_
  have hPc := hP.sub (ws' := [(x0, .inr (7, [.null, .null, .null, .null, .null, .null]))]) [0] rfl
  have hFc := va_free (wc := [(x0, .inr (7, [.null, .null, .null, .null, .null, .null]))]) hD hS hA [0] rfl
  have hDc := hD.sub (ws' := [(x0, .inr (7, [.null, .null, .null, .null, .null, .null]))]) [0] (by decide) rfl
  refine va_callv (va_runI (nL := 9) (As := []) (rest := [.ref x0]) ⟨hx, hb, hml, hown, hts⟩ (kX7_init l D y x0 _) (cwI 0 hts (gAI aC_X7_init) rfl rfl rfl (htb _ (aw_tbl aN_X7)) (htb _ (aw_tbl aM_L_81)) (htb _ (aw_tbl aI_X7_init)) rfl eX7_init ⟨Nat.le_of_ble_eq_true rfl, Nat.le_of_ble_eq_true rfl⟩) ⟨preI_blind, fun U hU hW => ⟨rfl, by rw [hU], by rw [hU]; exact hPc, va_K.moved hW.alike hK, hDc.weaken (fun _ _ _ _ => trivial), hNX.warm hW⟩⟩ rfl rfl hl.1 rfl (lv_room (Nat.le_of_ble_eq_true rfl)) dL_law_4 ⟨by show _ ≤ 601024; omega, by show _ ≤ 7293033; omega⟩) hS (fun q _ h => hFc q h) hFc (fun u T H1 locs ht hvm hw hB hz1 hk1 hS => ?_)
  obtain ⟨x1, x2, x3, x4, x5, x6, x7, x8, x9, x10, x11, x12, x13, x14, x15, x16, x17, x18, x19, x20, x21, x22, x23, x24, x25, x26, x27, x28, x29, x30, x31, x32, x33, x34, x35, x36, hP1, hD1⟩ := hB
  rw [ht] at hP1
  obtain ⟨hP, hD⟩ := va_join (wr := []) (w1 := [(x0, .inr (7, [.ref x1, .ref x9, .ref x11, .ref x15, .ref x23, .ref x35])), (x1, .inr (1, [.ref x2, .ref x3, .ref x4, .ref x5, .ref x6, .ref x7, .ref x8, .int 0])), (x2, .inl (y 0, 240, .inl (fun _ => 0))), (x3, .inl (y 0, 240, .inl (fun _ => 0))), (x4, .inl (y 0, 240, .inl (fun _ => 0))), (x5, .inl (y 0, 240, .inl (fun _ => 0))), (x6, .inl (y 0, 240, .inl (fun _ => 0))), (x7, .inl (y 0, 240, .inl (fun _ => 0))), (x8, .inl (y 2, 960, .inr (.inl (fun _ => 0)))), (x9, .inr (5, [.ref x1, .ref x10, .int 0, .int 0, .int (-1)])), (x10, .inl (y 1, 400, .inl (fun _ => 0))), (x11, .inr (2, [.ref x1, .ref x12, .ref x13, .ref x14, .int 0, .int 0])), (x12, .inl (y 1, 400, .inl (fun _ => 0))), (x13, .inl (y 0, 400, .inl (fun _ => 0))), (x14, .inl (y 0, 400, .inl (fun _ => 0))), (x15, .inr (6, [.ref x1, .ref x16, .ref x17, .ref x18, .ref x19, .ref x20, .ref x21, .ref x22, .int 0])), (x16, .inl (y 0, 16, .inl (fun _ => 0))), (x17, .inl (y 0, 16, .inl (fun _ => 0))), (x18, .inl (y 0, 16, .inl (fun _ => 0))), (x19, .inl (y 0, 16, .inl (fun _ => 0))), (x20, .inl (y 0, 16, .inl (fun _ => 0))), (x21, .inl (y 0, 16, .inl (fun _ => 0))), (x22, .inl (y 0, 240, .inl (fun _ => 0))), (x23, .inr (3, [.ref x1, .ref x15, .ref x24, .ref x28, .ref x29, .ref x30, .ref x31, .ref x32, .ref x33, .ref x34, .int 0, .int 0])), (x24, .inr (0, [.ref x25, .ref x26, .ref x27, .int 0, .int 0, .int (-1)])), (x25, .inl (y 0, 60, .inl (fun _ => 0))), (x26, .inl (y 0, 60, .inl (fun _ => 0))), (x27, .inl (y 0, 60, .inl (fun _ => 0))), (x28, .inl (y 0, 60, .inl (fun _ => 0))), (x29, .inl (y 0, 60, .inl (fun _ => 0))), (x30, .inl (y 0, 180, .inl (fun _ => 0))), (x31, .inl (y 0, 180, .inl (fun _ => 0))), (x32, .inl (y 0, 60, .inl (fun _ => 0))), (x33, .inl (y 3, 60, .inl (fun _ => 0))), (x34, .inl (y 0, 120, .inl (fun _ => 0))), (x35, .inr (4, [.ref x1, .ref x15, .ref x23, .ref x36])), (x36, .inl (y 0, 4, .inl (fun _ => 0)))]) hP hD [0] [] rfl rfl (by decide) (by decide) hk1 hFc hP1 hD1
  generalize H1 = H at hP hS ⊢
  have hP : va_P D vwCl [(x0, .inr (7, [.ref x1, .ref x9, .ref x11, .ref x15, .ref x23, .ref x35])), (x1, .inr (1, [.ref x2, .ref x3, .ref x4, .ref x5, .ref x6, .ref x7, .ref x8, .int 0])), (x2, .inl (y 0, 240, .inl (fun _ => 0))), (x3, .inl (y 0, 240, .inl (fun _ => 0))), (x4, .inl (y 0, 240, .inl (fun _ => 0))), (x5, .inl (y 0, 240, .inl (fun _ => 0))), (x6, .inl (y 0, 240, .inl (fun _ => 0))), (x7, .inl (y 0, 240, .inl (fun _ => 0))), (x8, .inl (y 2, 960, .inr (.inl (fun _ => 0)))), (x9, .inr (5, [.ref x1, .ref x10, .int 0, .int 0, .int (-1)])), (x10, .inl (y 1, 400, .inl (fun _ => 0))), (x11, .inr (2, [.ref x1, .ref x12, .ref x13, .ref x14, .int 0, .int 0])), (x12, .inl (y 1, 400, .inl (fun _ => 0))), (x13, .inl (y 0, 400, .inl (fun _ => 0))), (x14, .inl (y 0, 400, .inl (fun _ => 0))), (x15, .inr (6, [.ref x1, .ref x16, .ref x17, .ref x18, .ref x19, .ref x20, .ref x21, .ref x22, .int 0])), (x16, .inl (y 0, 16, .inl (fun _ => 0))), (x17, .inl (y 0, 16, .inl (fun _ => 0))), (x18, .inl (y 0, 16, .inl (fun _ => 0))), (x19, .inl (y 0, 16, .inl (fun _ => 0))), (x20, .inl (y 0, 16, .inl (fun _ => 0))), (x21, .inl (y 0, 16, .inl (fun _ => 0))), (x22, .inl (y 0, 240, .inl (fun _ => 0))), (x23, .inr (3, [.ref x1, .ref x15, .ref x24, .ref x28, .ref x29, .ref x30, .ref x31, .ref x32, .ref x33, .ref x34, .int 0, .int 0])), (x24, .inr (0, [.ref x25, .ref x26, .ref x27, .int 0, .int 0, .int (-1)])), (x25, .inl (y 0, 60, .inl (fun _ => 0))), (x26, .inl (y 0, 60, .inl (fun _ => 0))), (x27, .inl (y 0, 60, .inl (fun _ => 0))), (x28, .inl (y 0, 60, .inl (fun _ => 0))), (x29, .inl (y 0, 60, .inl (fun _ => 0))), (x30, .inl (y 0, 180, .inl (fun _ => 0))), (x31, .inl (y 0, 180, .inl (fun _ => 0))), (x32, .inl (y 0, 60, .inl (fun _ => 0))), (x33, .inl (y 3, 60, .inl (fun _ => 0))), (x34, .inl (y 0, 120, .inl (fun _ => 0))), (x35, .inr (4, [.ref x1, .ref x15, .ref x23, .ref x36])), (x36, .inl (y 0, 4, .inl (fun _ => 0)))] H := hP
  have hD : va_D A [(x0, .inr (7, [.ref x1, .ref x9, .ref x11, .ref x15, .ref x23, .ref x35])), (x1, .inr (1, [.ref x2, .ref x3, .ref x4, .ref x5, .ref x6, .ref x7, .ref x8, .int 0])), (x2, .inl (y 0, 240, .inl (fun _ => 0))), (x3, .inl (y 0, 240, .inl (fun _ => 0))), (x4, .inl (y 0, 240, .inl (fun _ => 0))), (x5, .inl (y 0, 240, .inl (fun _ => 0))), (x6, .inl (y 0, 240, .inl (fun _ => 0))), (x7, .inl (y 0, 240, .inl (fun _ => 0))), (x8, .inl (y 2, 960, .inr (.inl (fun _ => 0)))), (x9, .inr (5, [.ref x1, .ref x10, .int 0, .int 0, .int (-1)])), (x10, .inl (y 1, 400, .inl (fun _ => 0))), (x11, .inr (2, [.ref x1, .ref x12, .ref x13, .ref x14, .int 0, .int 0])), (x12, .inl (y 1, 400, .inl (fun _ => 0))), (x13, .inl (y 0, 400, .inl (fun _ => 0))), (x14, .inl (y 0, 400, .inl (fun _ => 0))), (x15, .inr (6, [.ref x1, .ref x16, .ref x17, .ref x18, .ref x19, .ref x20, .ref x21, .ref x22, .int 0])), (x16, .inl (y 0, 16, .inl (fun _ => 0))), (x17, .inl (y 0, 16, .inl (fun _ => 0))), (x18, .inl (y 0, 16, .inl (fun _ => 0))), (x19, .inl (y 0, 16, .inl (fun _ => 0))), (x20, .inl (y 0, 16, .inl (fun _ => 0))), (x21, .inl (y 0, 16, .inl (fun _ => 0))), (x22, .inl (y 0, 240, .inl (fun _ => 0))), (x23, .inr (3, [.ref x1, .ref x15, .ref x24, .ref x28, .ref x29, .ref x30, .ref x31, .ref x32, .ref x33, .ref x34, .int 0, .int 0])), (x24, .inr (0, [.ref x25, .ref x26, .ref x27, .int 0, .int 0, .int (-1)])), (x25, .inl (y 0, 60, .inl (fun _ => 0))), (x26, .inl (y 0, 60, .inl (fun _ => 0))), (x27, .inl (y 0, 60, .inl (fun _ => 0))), (x28, .inl (y 0, 60, .inl (fun _ => 0))), (x29, .inl (y 0, 60, .inl (fun _ => 0))), (x30, .inl (y 0, 180, .inl (fun _ => 0))), (x31, .inl (y 0, 180, .inl (fun _ => 0))), (x32, .inl (y 0, 60, .inl (fun _ => 0))), (x33, .inl (y 3, 60, .inl (fun _ => 0))), (x34, .inl (y 0, 120, .inl (fun _ => 0))), (x35, .inr (4, [.ref x1, .ref x15, .ref x23, .ref x36])), (x36, .inl (y 0, 4, .inl (fun _ => 0)))] := hD
  refine W.widen (k := 37) (n := 5296) (by omega) (by omega) ?_
  refine lv_astore_n (lv' := [(1, .ref x0), (0, .ref b)]) hx hb dL_law_7 rfl hl (by decide) rfl (fun ls hl => ?_)
  refine va_new (ci := 8) (fs := [.int 0, .null, .int 0, .int 0, .int 0, .null, .int 0, .int 0, .null, .null, .null, .null, .null, .null, .int 0, .null, .null, .null, .null, .int 0, .null, .null, .null, .int 0, .int 0, .null, .int 0, .null, .null, .null, .null, .null, .null, .int 0, .null, .null, .null, .null, .int 0, .null, .null, .null]) (C := RX8) (T := TX8) (N := 42) hx hb hw8 (fun _ h => h) tyX8 tyX8_ok hown (htb _ (aw_tbl aL_L_82)) (htb _ (aw_tbl aX_X8)) (htb _ (aw_tbl aN_X8)) hK hP hD hS hA rfl (fun j hj => by rcases (show j = 0 ∨ j = 1 ∨ j = 2 ∨ j = 3 ∨ j = 4 ∨ j = 5 ∨ j = 6 ∨ j = 7 ∨ j = 8 ∨ j = 9 ∨ j = 10 ∨ j = 11 ∨ j = 12 ∨ j = 13 ∨ j = 14 ∨ j = 15 ∨ j = 16 ∨ j = 17 ∨ j = 18 ∨ j = 19 ∨ j = 20 ∨ j = 21 ∨ j = 22 ∨ j = 23 ∨ j = 24 ∨ j = 25 ∨ j = 26 ∨ j = 27 ∨ j = 28 ∨ j = 29 ∨ j = 30 ∨ j = 31 ∨ j = 32 ∨ j = 33 ∨ j = 34 ∨ j = 35 ∨ j = 36 ∨ j = 37 ∨ j = 38 ∨ j = 39 ∨ j = 40 ∨ j = 41 by omega) with rfl | rfl | rfl | rfl | rfl | rfl | rfl | rfl | rfl | rfl | rfl | rfl | rfl | rfl | rfl | rfl | rfl | rfl | rfl | rfl | rfl | rfl | rfl | rfl | rfl | rfl | rfl | rfl | rfl | rfl | rfl | rfl | rfl | rfl | rfl | rfl | rfl | rfl | rfl | rfl | rfl | rfl <;> rfl) (by show _ ≤ 601024; omega) (by show _ ≤ 7293033; omega) dL_law_8 (fun m0 H hP hD hS => ?_)
  have hP : va_P D vwCl [(x0, .inr (7, [.ref x1, .ref x9, .ref x11, .ref x15, .ref x23, .ref x35])), (x1, .inr (1, [.ref x2, .ref x3, .ref x4, .ref x5, .ref x6, .ref x7, .ref x8, .int 0])), (x2, .inl (y 0, 240, .inl (fun _ => 0))), (x3, .inl (y 0, 240, .inl (fun _ => 0))), (x4, .inl (y 0, 240, .inl (fun _ => 0))), (x5, .inl (y 0, 240, .inl (fun _ => 0))), (x6, .inl (y 0, 240, .inl (fun _ => 0))), (x7, .inl (y 0, 240, .inl (fun _ => 0))), (x8, .inl (y 2, 960, .inr (.inl (fun _ => 0)))), (x9, .inr (5, [.ref x1, .ref x10, .int 0, .int 0, .int (-1)])), (x10, .inl (y 1, 400, .inl (fun _ => 0))), (x11, .inr (2, [.ref x1, .ref x12, .ref x13, .ref x14, .int 0, .int 0])), (x12, .inl (y 1, 400, .inl (fun _ => 0))), (x13, .inl (y 0, 400, .inl (fun _ => 0))), (x14, .inl (y 0, 400, .inl (fun _ => 0))), (x15, .inr (6, [.ref x1, .ref x16, .ref x17, .ref x18, .ref x19, .ref x20, .ref x21, .ref x22, .int 0])), (x16, .inl (y 0, 16, .inl (fun _ => 0))), (x17, .inl (y 0, 16, .inl (fun _ => 0))), (x18, .inl (y 0, 16, .inl (fun _ => 0))), (x19, .inl (y 0, 16, .inl (fun _ => 0))), (x20, .inl (y 0, 16, .inl (fun _ => 0))), (x21, .inl (y 0, 16, .inl (fun _ => 0))), (x22, .inl (y 0, 240, .inl (fun _ => 0))), (x23, .inr (3, [.ref x1, .ref x15, .ref x24, .ref x28, .ref x29, .ref x30, .ref x31, .ref x32, .ref x33, .ref x34, .int 0, .int 0])), (x24, .inr (0, [.ref x25, .ref x26, .ref x27, .int 0, .int 0, .int (-1)])), (x25, .inl (y 0, 60, .inl (fun _ => 0))), (x26, .inl (y 0, 60, .inl (fun _ => 0))), (x27, .inl (y 0, 60, .inl (fun _ => 0))), (x28, .inl (y 0, 60, .inl (fun _ => 0))), (x29, .inl (y 0, 60, .inl (fun _ => 0))), (x30, .inl (y 0, 180, .inl (fun _ => 0))), (x31, .inl (y 0, 180, .inl (fun _ => 0))), (x32, .inl (y 0, 60, .inl (fun _ => 0))), (x33, .inl (y 3, 60, .inl (fun _ => 0))), (x34, .inl (y 0, 120, .inl (fun _ => 0))), (x35, .inr (4, [.ref x1, .ref x15, .ref x23, .ref x36])), (x36, .inl (y 0, 4, .inl (fun _ => 0))), (m0, .inr (8, [.int 0, .null, .int 0, .int 0, .int 0, .null, .int 0, .int 0, .null, .null, .null, .null, .null, .null, .int 0, .null, .null, .null, .null, .int 0, .null, .null, .null, .int 0, .int 0, .null, .int 0, .null, .null, .null, .null, .null, .null, .int 0, .null, .null, .null, .null, .int 0, .null, .null, .null]))] H := hP
  have hD : va_D A [(x0, .inr (7, [.ref x1, .ref x9, .ref x11, .ref x15, .ref x23, .ref x35])), (x1, .inr (1, [.ref x2, .ref x3, .ref x4, .ref x5, .ref x6, .ref x7, .ref x8, .int 0])), (x2, .inl (y 0, 240, .inl (fun _ => 0))), (x3, .inl (y 0, 240, .inl (fun _ => 0))), (x4, .inl (y 0, 240, .inl (fun _ => 0))), (x5, .inl (y 0, 240, .inl (fun _ => 0))), (x6, .inl (y 0, 240, .inl (fun _ => 0))), (x7, .inl (y 0, 240, .inl (fun _ => 0))), (x8, .inl (y 2, 960, .inr (.inl (fun _ => 0)))), (x9, .inr (5, [.ref x1, .ref x10, .int 0, .int 0, .int (-1)])), (x10, .inl (y 1, 400, .inl (fun _ => 0))), (x11, .inr (2, [.ref x1, .ref x12, .ref x13, .ref x14, .int 0, .int 0])), (x12, .inl (y 1, 400, .inl (fun _ => 0))), (x13, .inl (y 0, 400, .inl (fun _ => 0))), (x14, .inl (y 0, 400, .inl (fun _ => 0))), (x15, .inr (6, [.ref x1, .ref x16, .ref x17, .ref x18, .ref x19, .ref x20, .ref x21, .ref x22, .int 0])), (x16, .inl (y 0, 16, .inl (fun _ => 0))), (x17, .inl (y 0, 16, .inl (fun _ => 0))), (x18, .inl (y 0, 16, .inl (fun _ => 0))), (x19, .inl (y 0, 16, .inl (fun _ => 0))), (x20, .inl (y 0, 16, .inl (fun _ => 0))), (x21, .inl (y 0, 16, .inl (fun _ => 0))), (x22, .inl (y 0, 240, .inl (fun _ => 0))), (x23, .inr (3, [.ref x1, .ref x15, .ref x24, .ref x28, .ref x29, .ref x30, .ref x31, .ref x32, .ref x33, .ref x34, .int 0, .int 0])), (x24, .inr (0, [.ref x25, .ref x26, .ref x27, .int 0, .int 0, .int (-1)])), (x25, .inl (y 0, 60, .inl (fun _ => 0))), (x26, .inl (y 0, 60, .inl (fun _ => 0))), (x27, .inl (y 0, 60, .inl (fun _ => 0))), (x28, .inl (y 0, 60, .inl (fun _ => 0))), (x29, .inl (y 0, 60, .inl (fun _ => 0))), (x30, .inl (y 0, 180, .inl (fun _ => 0))), (x31, .inl (y 0, 180, .inl (fun _ => 0))), (x32, .inl (y 0, 60, .inl (fun _ => 0))), (x33, .inl (y 3, 60, .inl (fun _ => 0))), (x34, .inl (y 0, 120, .inl (fun _ => 0))), (x35, .inr (4, [.ref x1, .ref x15, .ref x23, .ref x36])), (x36, .inl (y 0, 4, .inl (fun _ => 0))), (m0, .inr (8, [.int 0, .null, .int 0, .int 0, .int 0, .null, .int 0, .int 0, .null, .null, .null, .null, .null, .null, .int 0, .null, .null, .null, .null, .int 0, .null, .null, .null, .int 0, .int 0, .null, .int 0, .null, .null, .null, .null, .null, .null, .int 0, .null, .null, .null, .null, .int 0, .null, .null, .null]))] := hD
  refine W.widen (k := 38) (n := 5338) (by omega) (by omega) ?_
  refine lv_dup hx hb dL_law_11 rfl ?_
  have hPc := hP.sub (ws' := [(m0, .inr (8, [.int 0, .null, .int 0, .int 0, .int 0, .null, .int 0, .int 0, .null, .null, .null, .null, .null, .null, .int 0, .null, .null, .null, .null, .int 0, .null, .null, .null, .int 0, .int 0, .null, .int 0, .null, .null, .null, .null, .null, .null, .int 0, .null, .null, .null, .null, .int 0, .null, .null, .null]))]) [37] rfl
  have hFc := va_free (wc := [(m0, .inr (8, [.int 0, .null, .int 0, .int 0, .int 0, .null, .int 0, .int 0, .null, .null, .null, .null, .null, .null, .int 0, .null, .null, .null, .null, .int 0, .null, .null, .null, .int 0, .int 0, .null, .int 0, .null, .null, .null, .null, .null, .null, .int 0, .null, .null, .null, .null, .int 0, .null, .null, .null]))]) hD hS hA [37] rfl
  have hDc := hD.sub (ws' := [(m0, .inr (8, [.int 0, .null, .int 0, .int 0, .int 0, .null, .int 0, .int 0, .null, .null, .null, .null, .null, .null, .int 0, .null, .null, .null, .null, .int 0, .null, .null, .null, .int 0, .int 0, .null, .int 0, .null, .null, .null, .null, .null, .null, .int 0, .null, .null, .null, .null, .int 0, .null, .null, .null]))]) [37] (by decide) rfl
  refine va_callv (va_runI (nL := 9) (As := []) (rest := [.ref m0]) ⟨hx, hb, hml, hown, hts⟩ (kX8_init l D y m0 _) (cwI 0 hts (gAI aC_X8_init) rfl rfl rfl (htb _ (aw_tbl aN_X8)) (htb _ (aw_tbl aM_L_84)) (htb _ (aw_tbl aI_X8_init)) rfl eX8_init ⟨Nat.le_of_ble_eq_true rfl, Nat.le_of_ble_eq_true rfl⟩) ⟨preI_blind, fun U hU hW => ⟨rfl, by rw [hU], by rw [hU]; exact hPc, va_K.moved hW.alike hK, hDc.weaken (fun _ _ _ _ => trivial), hNX.warm hW⟩⟩ rfl rfl hl.1 rfl (lv_room (Nat.le_of_ble_eq_true rfl)) dL_law_12 ⟨by show _ ≤ 601024; omega, by show _ ≤ 7293033; omega⟩) hS (fun q _ h => hFc q h) hFc (fun u T H1 locs ht hvm hw hB hz1 hk1 hS => ?_)
  obtain ⟨m1, m2, m3, m4, m5, m6, m7, m8, m9, m10, m11, m12, m13, m14, m15, m16, m17, m18, m19, m20, m21, m22, m23, m24, m25, m26, m27, m28, m29, hP1, hD1⟩ := hB
  rw [ht] at hP1
  obtain ⟨hP, hD⟩ := va_join (wr := [(x0, .inr (7, [.ref x1, .ref x9, .ref x11, .ref x15, .ref x23, .ref x35])), (x1, .inr (1, [.ref x2, .ref x3, .ref x4, .ref x5, .ref x6, .ref x7, .ref x8, .int 0])), (x2, .inl (y 0, 240, .inl (fun _ => 0))), (x3, .inl (y 0, 240, .inl (fun _ => 0))), (x4, .inl (y 0, 240, .inl (fun _ => 0))), (x5, .inl (y 0, 240, .inl (fun _ => 0))), (x6, .inl (y 0, 240, .inl (fun _ => 0))), (x7, .inl (y 0, 240, .inl (fun _ => 0))), (x8, .inl (y 2, 960, .inr (.inl (fun _ => 0)))), (x9, .inr (5, [.ref x1, .ref x10, .int 0, .int 0, .int (-1)])), (x10, .inl (y 1, 400, .inl (fun _ => 0))), (x11, .inr (2, [.ref x1, .ref x12, .ref x13, .ref x14, .int 0, .int 0])), (x12, .inl (y 1, 400, .inl (fun _ => 0))), (x13, .inl (y 0, 400, .inl (fun _ => 0))), (x14, .inl (y 0, 400, .inl (fun _ => 0))), (x15, .inr (6, [.ref x1, .ref x16, .ref x17, .ref x18, .ref x19, .ref x20, .ref x21, .ref x22, .int 0])), (x16, .inl (y 0, 16, .inl (fun _ => 0))), (x17, .inl (y 0, 16, .inl (fun _ => 0))), (x18, .inl (y 0, 16, .inl (fun _ => 0))), (x19, .inl (y 0, 16, .inl (fun _ => 0))), (x20, .inl (y 0, 16, .inl (fun _ => 0))), (x21, .inl (y 0, 16, .inl (fun _ => 0))), (x22, .inl (y 0, 240, .inl (fun _ => 0))), (x23, .inr (3, [.ref x1, .ref x15, .ref x24, .ref x28, .ref x29, .ref x30, .ref x31, .ref x32, .ref x33, .ref x34, .int 0, .int 0])), (x24, .inr (0, [.ref x25, .ref x26, .ref x27, .int 0, .int 0, .int (-1)])), (x25, .inl (y 0, 60, .inl (fun _ => 0))), (x26, .inl (y 0, 60, .inl (fun _ => 0))), (x27, .inl (y 0, 60, .inl (fun _ => 0))), (x28, .inl (y 0, 60, .inl (fun _ => 0))), (x29, .inl (y 0, 60, .inl (fun _ => 0))), (x30, .inl (y 0, 180, .inl (fun _ => 0))), (x31, .inl (y 0, 180, .inl (fun _ => 0))), (x32, .inl (y 0, 60, .inl (fun _ => 0))), (x33, .inl (y 3, 60, .inl (fun _ => 0))), (x34, .inl (y 0, 120, .inl (fun _ => 0))), (x35, .inr (4, [.ref x1, .ref x15, .ref x23, .ref x36])), (x36, .inl (y 0, 4, .inl (fun _ => 0)))]) (w1 := [(m0, .inr (8, [.int 0, .ref m1, .int 0, .int (-1), .int 0, .ref m2, .int 0, .int 0, .ref m3, .ref m4, .ref m5, .ref m6, .ref m7, .ref m8, .int 0, .ref m9, .ref m10, .ref m11, .ref m12, .int 0, .ref m13, .ref m14, .ref m15, .int (-1), .int 0, .ref m16, .int 0, .ref m17, .ref m18, .ref m19, .ref m20, .ref m21, .ref m22, .int 0, .ref m23, .ref m24, .ref m25, .ref m26, .int 0, .ref m27, .ref m28, .ref m29])), (m1, .inl (y 0, 400, .inl (fun _ => 0))), (m2, .inl (y 0, 400, .inl (fun _ => 0))), (m3, .inl (y 0, 240, .inl (fun _ => 0))), (m4, .inl (y 0, 240, .inl (fun _ => 0))), (m5, .inl (y 0, 240, .inl (fun _ => 0))), (m6, .inl (y 0, 240, .inl (fun _ => 0))), (m7, .inl (y 0, 240, .inl (fun _ => 0))), (m8, .inl (y 3, 61440, .inl (fun _ => 0))), (m9, .inl (y 0, 60, .inl (fun _ => 0))), (m10, .inl (y 0, 60, .inl (fun _ => 0))), (m11, .inl (y 0, 180, .inl (fun _ => 0))), (m12, .inl (y 0, 60, .inl (fun _ => 0))), (m13, .inl (y 0, 60, .inl (fun _ => 0))), (m14, .inl (y 0, 60, .inl (fun _ => 0))), (m15, .inl (y 0, 60, .inl (fun _ => 0))), (m16, .inl (y 0, 120, .inl (fun _ => 0))), (m17, .inl (y 0, 16, .inl (fun _ => 0))), (m18, .inl (y 0, 16, .inl (fun _ => 0))), (m19, .inl (y 0, 32, .inl (fun _ => 0))), (m20, .inl (y 0, 16, .inl (fun _ => 0))), (m21, .inl (y 0, 16, .inl (fun _ => 0))), (m22, .inl (y 0, 16, .inl (fun _ => 0))), (m23, .inl (y 0, 400, .inl (fun _ => 0))), (m24, .inl (y 0, 400, .inl (fun _ => 0))), (m25, .inl (y 0, 400, .inl (fun _ => 0))), (m26, .inl (y 0, 400, .inl (fun _ => 0))), (m27, .inl (y 0, 240, .inl (fun _ => 0))), (m28, .inl (y 3, 60, .inl (fun _ => 0))), (m29, .inl (y 0, 4, .inl (fun _ => 0)))]) hP hD [37] [0, 1, 2, 3, 4, 5, 6, 7, 8, 9, 10, 11, 12, 13, 14, 15, 16, 17, 18, 19, 20, 21, 22, 23, 24, 25, 26, 27, 28, 29, 30, 31, 32, 33, 34, 35, 36] rfl rfl (by decide) (by decide) hk1 hFc hP1 hD1
  generalize H1 = H at hP hS ⊢
  have hP : va_P D vwCl [(x0, .inr (7, [.ref x1, .ref x9, .ref x11, .ref x15, .ref x23, .ref x35])), (x1, .inr (1, [.ref x2, .ref x3, .ref x4, .ref x5, .ref x6, .ref x7, .ref x8, .int 0])), (x2, .inl (y 0, 240, .inl (fun _ => 0))), (x3, .inl (y 0, 240, .inl (fun _ => 0))), (x4, .inl (y 0, 240, .inl (fun _ => 0))), (x5, .inl (y 0, 240, .inl (fun _ => 0))), (x6, .inl (y 0, 240, .inl (fun _ => 0))), (x7, .inl (y 0, 240, .inl (fun _ => 0))), (x8, .inl (y 2, 960, .inr (.inl (fun _ => 0)))), (x9, .inr (5, [.ref x1, .ref x10, .int 0, .int 0, .int (-1)])), (x10, .inl (y 1, 400, .inl (fun _ => 0))), (x11, .inr (2, [.ref x1, .ref x12, .ref x13, .ref x14, .int 0, .int 0])), (x12, .inl (y 1, 400, .inl (fun _ => 0))), (x13, .inl (y 0, 400, .inl (fun _ => 0))), (x14, .inl (y 0, 400, .inl (fun _ => 0))), (x15, .inr (6, [.ref x1, .ref x16, .ref x17, .ref x18, .ref x19, .ref x20, .ref x21, .ref x22, .int 0])), (x16, .inl (y 0, 16, .inl (fun _ => 0))), (x17, .inl (y 0, 16, .inl (fun _ => 0))), (x18, .inl (y 0, 16, .inl (fun _ => 0))), (x19, .inl (y 0, 16, .inl (fun _ => 0))), (x20, .inl (y 0, 16, .inl (fun _ => 0))), (x21, .inl (y 0, 16, .inl (fun _ => 0))), (x22, .inl (y 0, 240, .inl (fun _ => 0))), (x23, .inr (3, [.ref x1, .ref x15, .ref x24, .ref x28, .ref x29, .ref x30, .ref x31, .ref x32, .ref x33, .ref x34, .int 0, .int 0])), (x24, .inr (0, [.ref x25, .ref x26, .ref x27, .int 0, .int 0, .int (-1)])), (x25, .inl (y 0, 60, .inl (fun _ => 0))), (x26, .inl (y 0, 60, .inl (fun _ => 0))), (x27, .inl (y 0, 60, .inl (fun _ => 0))), (x28, .inl (y 0, 60, .inl (fun _ => 0))), (x29, .inl (y 0, 60, .inl (fun _ => 0))), (x30, .inl (y 0, 180, .inl (fun _ => 0))), (x31, .inl (y 0, 180, .inl (fun _ => 0))), (x32, .inl (y 0, 60, .inl (fun _ => 0))), (x33, .inl (y 3, 60, .inl (fun _ => 0))), (x34, .inl (y 0, 120, .inl (fun _ => 0))), (x35, .inr (4, [.ref x1, .ref x15, .ref x23, .ref x36])), (x36, .inl (y 0, 4, .inl (fun _ => 0))), (m0, .inr (8, [.int 0, .ref m1, .int 0, .int (-1), .int 0, .ref m2, .int 0, .int 0, .ref m3, .ref m4, .ref m5, .ref m6, .ref m7, .ref m8, .int 0, .ref m9, .ref m10, .ref m11, .ref m12, .int 0, .ref m13, .ref m14, .ref m15, .int (-1), .int 0, .ref m16, .int 0, .ref m17, .ref m18, .ref m19, .ref m20, .ref m21, .ref m22, .int 0, .ref m23, .ref m24, .ref m25, .ref m26, .int 0, .ref m27, .ref m28, .ref m29])), (m1, .inl (y 0, 400, .inl (fun _ => 0))), (m2, .inl (y 0, 400, .inl (fun _ => 0))), (m3, .inl (y 0, 240, .inl (fun _ => 0))), (m4, .inl (y 0, 240, .inl (fun _ => 0))), (m5, .inl (y 0, 240, .inl (fun _ => 0))), (m6, .inl (y 0, 240, .inl (fun _ => 0))), (m7, .inl (y 0, 240, .inl (fun _ => 0))), (m8, .inl (y 3, 61440, .inl (fun _ => 0))), (m9, .inl (y 0, 60, .inl (fun _ => 0))), (m10, .inl (y 0, 60, .inl (fun _ => 0))), (m11, .inl (y 0, 180, .inl (fun _ => 0))), (m12, .inl (y 0, 60, .inl (fun _ => 0))), (m13, .inl (y 0, 60, .inl (fun _ => 0))), (m14, .inl (y 0, 60, .inl (fun _ => 0))), (m15, .inl (y 0, 60, .inl (fun _ => 0))), (m16, .inl (y 0, 120, .inl (fun _ => 0))), (m17, .inl (y 0, 16, .inl (fun _ => 0))), (m18, .inl (y 0, 16, .inl (fun _ => 0))), (m19, .inl (y 0, 32, .inl (fun _ => 0))), (m20, .inl (y 0, 16, .inl (fun _ => 0))), (m21, .inl (y 0, 16, .inl (fun _ => 0))), (m22, .inl (y 0, 16, .inl (fun _ => 0))), (m23, .inl (y 0, 400, .inl (fun _ => 0))), (m24, .inl (y 0, 400, .inl (fun _ => 0))), (m25, .inl (y 0, 400, .inl (fun _ => 0))), (m26, .inl (y 0, 400, .inl (fun _ => 0))), (m27, .inl (y 0, 240, .inl (fun _ => 0))), (m28, .inl (y 3, 60, .inl (fun _ => 0))), (m29, .inl (y 0, 4, .inl (fun _ => 0)))] H := hP
  have hD : va_D A [(x0, .inr (7, [.ref x1, .ref x9, .ref x11, .ref x15, .ref x23, .ref x35])), (x1, .inr (1, [.ref x2, .ref x3, .ref x4, .ref x5, .ref x6, .ref x7, .ref x8, .int 0])), (x2, .inl (y 0, 240, .inl (fun _ => 0))), (x3, .inl (y 0, 240, .inl (fun _ => 0))), (x4, .inl (y 0, 240, .inl (fun _ => 0))), (x5, .inl (y 0, 240, .inl (fun _ => 0))), (x6, .inl (y 0, 240, .inl (fun _ => 0))), (x7, .inl (y 0, 240, .inl (fun _ => 0))), (x8, .inl (y 2, 960, .inr (.inl (fun _ => 0)))), (x9, .inr (5, [.ref x1, .ref x10, .int 0, .int 0, .int (-1)])), (x10, .inl (y 1, 400, .inl (fun _ => 0))), (x11, .inr (2, [.ref x1, .ref x12, .ref x13, .ref x14, .int 0, .int 0])), (x12, .inl (y 1, 400, .inl (fun _ => 0))), (x13, .inl (y 0, 400, .inl (fun _ => 0))), (x14, .inl (y 0, 400, .inl (fun _ => 0))), (x15, .inr (6, [.ref x1, .ref x16, .ref x17, .ref x18, .ref x19, .ref x20, .ref x21, .ref x22, .int 0])), (x16, .inl (y 0, 16, .inl (fun _ => 0))), (x17, .inl (y 0, 16, .inl (fun _ => 0))), (x18, .inl (y 0, 16, .inl (fun _ => 0))), (x19, .inl (y 0, 16, .inl (fun _ => 0))), (x20, .inl (y 0, 16, .inl (fun _ => 0))), (x21, .inl (y 0, 16, .inl (fun _ => 0))), (x22, .inl (y 0, 240, .inl (fun _ => 0))), (x23, .inr (3, [.ref x1, .ref x15, .ref x24, .ref x28, .ref x29, .ref x30, .ref x31, .ref x32, .ref x33, .ref x34, .int 0, .int 0])), (x24, .inr (0, [.ref x25, .ref x26, .ref x27, .int 0, .int 0, .int (-1)])), (x25, .inl (y 0, 60, .inl (fun _ => 0))), (x26, .inl (y 0, 60, .inl (fun _ => 0))), (x27, .inl (y 0, 60, .inl (fun _ => 0))), (x28, .inl (y 0, 60, .inl (fun _ => 0))), (x29, .inl (y 0, 60, .inl (fun _ => 0))), (x30, .inl (y 0, 180, .inl (fun _ => 0))), (x31, .inl (y 0, 180, .inl (fun _ => 0))), (x32, .inl (y 0, 60, .inl (fun _ => 0))), (x33, .inl (y 3, 60, .inl (fun _ => 0))), (x34, .inl (y 0, 120, .inl (fun _ => 0))), (x35, .inr (4, [.ref x1, .ref x15, .ref x23, .ref x36])), (x36, .inl (y 0, 4, .inl (fun _ => 0))), (m0, .inr (8, [.int 0, .ref m1, .int 0, .int (-1), .int 0, .ref m2, .int 0, .int 0, .ref m3, .ref m4, .ref m5, .ref m6, .ref m7, .ref m8, .int 0, .ref m9, .ref m10, .ref m11, .ref m12, .int 0, .ref m13, .ref m14, .ref m15, .int (-1), .int 0, .ref m16, .int 0, .ref m17, .ref m18, .ref m19, .ref m20, .ref m21, .ref m22, .int 0, .ref m23, .ref m24, .ref m25, .ref m26, .int 0, .ref m27, .ref m28, .ref m29])), (m1, .inl (y 0, 400, .inl (fun _ => 0))), (m2, .inl (y 0, 400, .inl (fun _ => 0))), (m3, .inl (y 0, 240, .inl (fun _ => 0))), (m4, .inl (y 0, 240, .inl (fun _ => 0))), (m5, .inl (y 0, 240, .inl (fun _ => 0))), (m6, .inl (y 0, 240, .inl (fun _ => 0))), (m7, .inl (y 0, 240, .inl (fun _ => 0))), (m8, .inl (y 3, 61440, .inl (fun _ => 0))), (m9, .inl (y 0, 60, .inl (fun _ => 0))), (m10, .inl (y 0, 60, .inl (fun _ => 0))), (m11, .inl (y 0, 180, .inl (fun _ => 0))), (m12, .inl (y 0, 60, .inl (fun _ => 0))), (m13, .inl (y 0, 60, .inl (fun _ => 0))), (m14, .inl (y 0, 60, .inl (fun _ => 0))), (m15, .inl (y 0, 60, .inl (fun _ => 0))), (m16, .inl (y 0, 120, .inl (fun _ => 0))), (m17, .inl (y 0, 16, .inl (fun _ => 0))), (m18, .inl (y 0, 16, .inl (fun _ => 0))), (m19, .inl (y 0, 32, .inl (fun _ => 0))), (m20, .inl (y 0, 16, .inl (fun _ => 0))), (m21, .inl (y 0, 16, .inl (fun _ => 0))), (m22, .inl (y 0, 16, .inl (fun _ => 0))), (m23, .inl (y 0, 400, .inl (fun _ => 0))), (m24, .inl (y 0, 400, .inl (fun _ => 0))), (m25, .inl (y 0, 400, .inl (fun _ => 0))), (m26, .inl (y 0, 400, .inl (fun _ => 0))), (m27, .inl (y 0, 240, .inl (fun _ => 0))), (m28, .inl (y 3, 60, .inl (fun _ => 0))), (m29, .inl (y 0, 4, .inl (fun _ => 0)))] := hD
  refine W.widen (k := 67) (n := 71454) (by omega) (by omega) ?_
  refine lv_astore_n (lv' := [(2, .ref m0), (1, .ref x0), (0, .ref b)]) hx hb dL_law_15 rfl hl (by decide) rfl (fun ls hl => ?_)
  refine lv_iconst (v := 1) hx hb dL_law_16 (by decide) ?_
  refine nwG_long (n := 1) hx hb (htb _ (aw_tbl aA_long)) hK hP hD hS hA (by decide) rfl (Nat.le_of_ble_eq_true rfl) (by show _ ≤ 601024; omega) (by show _ ≤ 7293033; omega) dL_law_17 (fun o0 H hP hD hS => ?_)
  refine W.widen (k := 68) (n := 71455) (by omega) (by omega) ?_
  refine lv_astore_n (lv' := [(3, .ref o0), (2, .ref m0), (1, .ref x0), (0, .ref b)]) hx hb dL_law_19 rfl hl (by decide) rfl (fun ls hl => ?_)
  refine lv_iconst (v := 0) hx hb dL_law_20 (by decide) ?_
  refine lv_istore (lv' := [(4, .int 0), (3, .ref o0), (2, .ref m0), (1, .ref x0), (0, .ref b)]) hx hb dL_law_21 hl (by decide) rfl (fun ls hl => ?_)
  obtain ⟨av, hav⟩ : ∃ av : Nat → Nat, av = fun k => [x0, x1, x9, x11, x15, x23, x24, x35, x2, x3, x4, x5, x6, x7, x8, x10, x12, x13, x14, x16, x17, x18, x19, x20, x21, x22, x28, x29, x30, x31, x32, x33, x34, x25, x26, x27, x36].getD k 0 := ⟨_, rfl⟩
  obtain ⟨bv, hbv⟩ : ∃ bv : Nat → Nat, bv = fun k => [m0, m1, m2, m3, m4, m5, m6, m7, m8, m9, m10, m11, m12, m13, m14, m15, m16, m17, m18, m19, m20, m21, m22, m23, m24, m25, m26, m27, m28, m29].getD k 0 := ⟨_, rfl⟩
  have hPo : va_P D vwCl (wO y av o0 (fun _ => 0) σ0) H := by rw [hav]; exact hP.sub [0, 1, 9, 11, 15, 23, 24, 35, 2, 3, 4, 5, 6, 7, 8, 10, 12, 13, 14, 16, 17, 18, 19, 20, 21, 22, 28, 29, 30, 31, 32, 33, 34, 25, 26, 27, 36, 67] rfl
  have hPm : va_P D vwCl (wM y bv τ0) H := by rw [hbv]; exact hP.sub [37, 38, 39, 40, 41, 42, 43, 44, 45, 46, 47, 48, 49, 50, 51, 52, 53, 54, 55, 56, 57, 58, 59, 60, 61, 62, 63, 64, 65, 66] rfl
  have hDD := hD.sub (ws' := wO y av o0 (fun _ => 0) σ0 ++ wM y bv τ0) [0, 1, 9, 11, 15, 23, 24, 35, 2, 3, 4, 5, 6, 7, 8, 10, 12, 13, 14, 16, 17, 18, 19, 20, 21, 22, 28, 29, 30, 31, 32, 33, 34, 25, 26, 27, 36, 67, 37, 38, 39, 40, 41, 42, 43, 44, 45, 46, 47, 48, 49, 50, 51, 52, 53, 54, 55, 56, 57, 58, 59, 60, 61, 62, 63, 64, 65, 66] (by decide) (by rw [hav, hbv]; rfl)
  have hmap : (wO y av o0 (fun _ => 0) σ0 ++ wM y bv τ0).map (fun q => q.1) = (List.range 68).map (lc av o0 bv) := rfl
  have hI68 : AI (lc av o0 bv) 68 := fun i j hi hj h => by
    have hlen : (wO y av o0 (fun _ => 0) σ0 ++ wM y bv τ0).length = 68 := rfl
    have g1 := List.getElem?_eq_getElem (l := wO y av o0 (fun _ => 0) σ0 ++ wM y bv τ0) (i := i) (by rw [hlen]; exact hi)
    have g2 := List.getElem?_eq_getElem (l := wO y av o0 (fun _ => 0) σ0 ++ wM y bv τ0) (i := j) (by rw [hlen]; exact hj)
    exact hDD.1 i j _ _ g1 g2 (by rw [(ad_of hmap g1).2, (ad_of hmap g2).2]; exact h)
  have hA68 : ∀ k, k < 68 → s.heap.size ≤ lc av o0 bv k := fun k hk => by
    have hlen : (wO y av o0 (fun _ => 0) σ0 ++ wM y bv τ0).length = 68 := rfl
    have g1 := List.getElem?_eq_getElem (l := wO y av o0 (fun _ => 0) σ0 ++ wM y bv τ0) (i := k) (by rw [hlen]; exact hk)
    have g2 := hDD.2 k _ g1
    rw [(ad_of hmap g1).2, hAe] at g2
    exact g2
  rw [hAe] at hS
  have h0 : x0 = av 0 := by rw [hav]; rfl
  have h1 : m0 = bv 0 := by rw [hbv]; rfl
  have hl : lv_has ls 9 [(4, .int 0), (3, .ref o0), (2, .ref (bv 0)), (1, .ref (av 0)), (0, .ref b)] := by rw [← h0, ← h1]; exact hl
  exact law_loop (meth0 := hlocks) ⟨⟨hx, hb, hml, hown, hts, hlocks, hr⟩, ⟨hX, hbl, hL⟩, hK, hF, hE, hfl, hI68, hA68⟩ 513 0 rfl 0 rfl (Nat.zero_le _) σ0 τ0 _ _ _ _ RR_0 hPo hPm hS (lv_sub hl [4, 3, 2, 1, 0] rfl)
