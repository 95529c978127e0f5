/-- the words of the tables that stay -/
def AW : List Cond := lw_tbl.filter goodWord
theorem aw_good {w : Cond} (h : w ∈ AW) : (w.onTables && w.keeps) = true ∨ ∃ ty, w = .arrayClass ty := good_of_word (List.mem_filter.mp h).2
theorem aw_tbl {w : Cond} (h : w ∈ AW) : w ∈ lw_tbl := (List.mem_filter.mp h).1
theorem in_t1 {w : Cond} (h : w ∈ tables_1_1) (hg : goodWord w = true) : w ∈ AW := List.mem_filter.mpr ⟨List.mem_append_right _ (List.mem_append_left _ h), hg⟩
theorem in_t2 {w : Cond} (h : w ∈ tables_1_2) (hg : goodWord w = true) : w ∈ AW := List.mem_filter.mpr ⟨List.mem_append_right _ (List.mem_append_right _ (List.mem_append_left _ h)), hg⟩
theorem in_t3 {w : Cond} (h : w ∈ tables_1_3) (hg : goodWord w = true) : w ∈ AW := List.mem_filter.mpr ⟨List.mem_append_right _ (List.mem_append_right _ (List.mem_append_right _ (List.mem_append_left _ h))), hg⟩
theorem in_t4 {w : Cond} (h : w ∈ tables_1_4) (hg : goodWord w = true) : w ∈ AW := List.mem_filter.mpr ⟨List.mem_append_right _ (List.mem_append_right _ (List.mem_append_right _ (List.mem_append_right _ (List.mem_append_left _ h)))), hg⟩
theorem in_t5 {w : Cond} (h : w ∈ tables_1_5) (hg : goodWord w = true) : w ∈ AW := List.mem_filter.mpr ⟨List.mem_append_right _ (List.mem_append_right _ (List.mem_append_right _ (List.mem_append_right _ (List.mem_append_right _ (List.mem_append_left _ h))))), hg⟩
theorem in_t6 {w : Cond} (h : w ∈ tables_1_6) (hg : goodWord w = true) : w ∈ AW := List.mem_filter.mpr ⟨List.mem_append_right _ (List.mem_append_right _ (List.mem_append_right _ (List.mem_append_right _ (List.mem_append_right _ (List.mem_append_right _ (List.mem_append_left _ h)))))), hg⟩
theorem in_t7 {w : Cond} (h : w ∈ tables_1_7) (hg : goodWord w = true) : w ∈ AW := List.mem_filter.mpr ⟨List.mem_append_right _ (List.mem_append_right _ (List.mem_append_right _ (List.mem_append_right _ (List.mem_append_right _ (List.mem_append_right _ (List.mem_append_right _ (h))))))), hg⟩
theorem in_s1 {q : MethodName × Nat} (h : q ∈ lw_privs_1) (hg : goodWord (Cond.selects q.1.cls q.1 q.1) = true) : Cond.selects q.1.cls q.1 q.1 ∈ AW := List.mem_filter.mpr ⟨List.mem_append_left _ (List.mem_map.mpr ⟨q, List.mem_append_left _ h, rfl⟩), hg⟩
theorem in_s2 {q : MethodName × Nat} (h : q ∈ lw_privs_2) (hg : goodWord (Cond.selects q.1.cls q.1 q.1) = true) : Cond.selects q.1.cls q.1 q.1 ∈ AW := List.mem_filter.mpr ⟨List.mem_append_left _ (List.mem_map.mpr ⟨q, List.mem_append_right _ (List.mem_append_left _ h), rfl⟩), hg⟩
theorem in_s3 {q : MethodName × Nat} (h : q ∈ lw_privs_3) (hg : goodWord (Cond.selects q.1.cls q.1 q.1) = true) : Cond.selects q.1.cls q.1 q.1 ∈ AW := List.mem_filter.mpr ⟨List.mem_append_left _ (List.mem_map.mpr ⟨q, List.mem_append_right _ (List.mem_append_right _ (List.mem_append_left _ h)), rfl⟩), hg⟩
theorem in_s4 {q : MethodName × Nat} (h : q ∈ lw_privs_4) (hg : goodWord (Cond.selects q.1.cls q.1 q.1) = true) : Cond.selects q.1.cls q.1 q.1 ∈ AW := List.mem_filter.mpr ⟨List.mem_append_left _ (List.mem_map.mpr ⟨q, List.mem_append_right _ (List.mem_append_right _ (List.mem_append_right _ (List.mem_append_left _ h))), rfl⟩), hg⟩
theorem in_s5 {q : MethodName × Nat} (h : q ∈ lw_privs_5) (hg : goodWord (Cond.selects q.1.cls q.1 q.1) = true) : Cond.selects q.1.cls q.1 q.1 ∈ AW := List.mem_filter.mpr ⟨List.mem_append_left _ (List.mem_map.mpr ⟨q, List.mem_append_right _ (List.mem_append_right _ (List.mem_append_right _ (List.mem_append_right _ (h)))), rfl⟩), hg⟩
theorem gAV {X w0 : Cond} {own C : String} {idx : Nat} {y : MethodName} (h1 : Cond.methodLink own idx y ∈ AW) (h2 : Cond.instanceMethod y ∈ AW) (h3 : Cond.selects C y y ∈ AW) (h4 : Cond.initialized C ∈ AW) (h5 : w0 ∈ AW) : GoodIn (X :: AW) (wsV own idx C y (w0 :: AW)) := by
  intro w hw
  have h : w ∈ AW := by
    unfold wsV at hw
    simp only [List.cons_append, List.nil_append, List.mem_cons] at hw
    rcases hw with rfl | rfl | rfl | rfl | rfl | hw
    · exact h1
    · exact h2
    · exact h3
    · exact h4
    · exact h5
    · exact hw
  exact ⟨List.mem_cons_of_mem _ h, aw_good h⟩
theorem gAS {X w0 : Cond} {own : String} {idx : Nat} {y : MethodName} (h1 : Cond.methodLink own idx y ∈ AW) (h2 : Cond.static y ∈ AW) (h4 : Cond.initialized y.cls ∈ AW) (h5 : w0 ∈ AW) : GoodIn (X :: AW) (va_wsS own idx y (w0 :: AW)) := by
  intro w hw
  have h : w ∈ AW := by
    unfold va_wsS at hw
    simp only [List.cons_append, List.nil_append, List.mem_cons] at hw
    rcases hw with rfl | rfl | rfl | rfl | hw
    · exact h1
    · exact h2
    · exact h4
    · exact h5
    · exact hw
  exact ⟨List.mem_cons_of_mem _ h, aw_good h⟩
theorem gAI {X w0 : Cond} (h5 : w0 ∈ AW) : GoodIn (X :: AW) (w0 :: AW) := by
  intro w hw
  have h : w ∈ AW := (List.mem_cons.mp hw).elim (fun e => e ▸ h5) (fun h => h)
  exact ⟨List.mem_cons_of_mem _ h, aw_good h⟩
theorem aN_L : Cond.initialized RL ∈ AW := in_t1 (List.mem_of_getElem? (i := 0) rfl) rfl
theorem aN_X7 : Cond.initialized RX7 ∈ AW := in_t1 (List.mem_of_getElem? (i := 1) rfl) rfl
theorem aN_X1 : Cond.initialized RX1 ∈ AW := in_t1 (List.mem_of_getElem? (i := 2) rfl) rfl
theorem aN_X5 : Cond.initialized RX5 ∈ AW := in_t1 (List.mem_of_getElem? (i := 3) rfl) rfl
theorem aN_X2 : Cond.initialized RX2 ∈ AW := in_t1 (List.mem_of_getElem? (i := 4) rfl) rfl
theorem aN_X6 : Cond.initialized RX6 ∈ AW := in_t1 (List.mem_of_getElem? (i := 5) rfl) rfl
theorem aN_X3 : Cond.initialized RX3 ∈ AW := in_t1 (List.mem_of_getElem? (i := 6) rfl) rfl
theorem aN_X0 : Cond.initialized RX0 ∈ AW := in_t1 (List.mem_of_getElem? (i := 7) rfl) rfl
theorem aN_X4 : Cond.initialized RX4 ∈ AW := in_t1 (List.mem_of_getElem? (i := 8) rfl) rfl
theorem aN_X8 : Cond.initialized RX8 ∈ AW := in_t1 (List.mem_of_getElem? (i := 9) rfl) rfl
theorem aN_J9 : Cond.initialized RJ9 ∈ AW := in_t1 (List.mem_of_getElem? (i := 15) rfl) rfl
theorem aN_J13 : Cond.initialized RJ13 ∈ AW := in_t1 (List.mem_of_getElem? (i := 17) rfl) rfl
theorem aN_J10 : Cond.initialized RJ10 ∈ AW := in_t1 (List.mem_of_getElem? (i := 18) rfl) rfl
theorem aN_J7 : Cond.initialized RJ7 ∈ AW := in_t1 (List.mem_of_getElem? (i := 19) rfl) rfl
theorem aL_L_8 : Cond.classLink RL 8 RX7 ∈ AW := in_t1 (List.mem_of_getElem? (i := 20) rfl) rfl
theorem aX_X7 : Cond.instantiable RX7 6 ∈ AW := in_t1 (List.mem_of_getElem? (i := 21) rfl) rfl
theorem aM_L_81 : Cond.methodLink RL 81 yX7_init ∈ AW := in_t1 (List.mem_of_getElem? (i := 22) rfl) rfl
theorem aI_X7_init : Cond.instanceMethod yX7_init ∈ AW := in_t1 (List.mem_of_getElem? (i := 23) rfl) rfl
theorem aC_X7_init : Cond.code yX7_init cX7_init 1 none ∈ AW := in_t1 (List.mem_of_getElem? (i := 24) rfl) rfl
theorem aM_X7_1 : Cond.methodLink RX7 1 objectInit ∈ AW := in_t1 (List.mem_of_getElem? (i := 25) rfl) rfl
theorem aI_objectInit : Cond.instanceMethod objectInit ∈ AW := in_t1 (List.mem_of_getElem? (i := 26) rfl) rfl
theorem aC_objectInit : Cond.code objectInit ⟨#[0xb1]⟩ 1 none ∈ AW := in_t1 (List.mem_of_getElem? (i := 27) rfl) rfl
theorem aL_X7_7 : Cond.classLink RX7 7 RX1 ∈ AW := in_t1 (List.mem_of_getElem? (i := 28) rfl) rfl
theorem aX_X1 : Cond.instantiable RX1 8 ∈ AW := in_t1 (List.mem_of_getElem? (i := 29) rfl) rfl
theorem aI_X1_init : Cond.instanceMethod yX1_init ∈ AW := in_t1 (List.mem_of_getElem? (i := 31) rfl) rfl
theorem aC_X1_init : Cond.code yX1_init cX1_init 1 none ∈ AW := in_t1 (List.mem_of_getElem? (i := 32) rfl) rfl
theorem aM_X1_3 : Cond.methodLink RX1 3 objectInit ∈ AW := in_t1 (List.mem_of_getElem? (i := 33) rfl) rfl
theorem aF_X1_9 : Cond.fieldLink RX1 9 "ProofDesk$Formulas" "sorts" "[I" ∈ AW := in_t1 (List.mem_of_getElem? (i := 34) rfl) rfl
theorem aF_X1_15 : Cond.fieldLink RX1 15 "ProofDesk$Formulas" "firsts" "[I" ∈ AW := in_t1 (List.mem_of_getElem? (i := 35) rfl) rfl
theorem aF_X1_18 : Cond.fieldLink RX1 18 "ProofDesk$Formulas" "seconds" "[I" ∈ AW := in_t1 (List.mem_of_getElem? (i := 36) rfl) rfl
theorem aF_X1_21 : Cond.fieldLink RX1 21 "ProofDesk$Formulas" "letterSets" "[I" ∈ AW := in_t1 (List.mem_of_getElem? (i := 37) rfl) rfl
theorem aF_X1_24 : Cond.fieldLink RX1 24 "ProofDesk$Formulas" "sizes" "[I" ∈ AW := in_t1 (List.mem_of_getElem? (i := 38) rfl) rfl
theorem aF_X1_27 : Cond.fieldLink RX1 27 "ProofDesk$Formulas" "widths" "[I" ∈ AW := in_t1 (List.mem_of_getElem? (i := 39) rfl) rfl
theorem aF_X1_30 : Cond.fieldLink RX1 30 "ProofDesk$Formulas" "truths" "[J" ∈ AW := in_t1 (List.mem_of_getElem? (i := 40) rfl) rfl
theorem aF_X1_34 : Cond.fieldLink RX1 34 "ProofDesk$Formulas" "known" "I" ∈ AW := in_t1 (List.mem_of_getElem? (i := 41) rfl) rfl
theorem aY_X1_sorts : Cond.laysFinal RX1 "ProofDesk$Formulas" "sorts" "[I" ∈ AW := in_t1 (List.mem_of_getElem? (i := 42) rfl) rfl
theorem aY_X1_firsts : Cond.laysFinal RX1 "ProofDesk$Formulas" "firsts" "[I" ∈ AW := in_t1 (List.mem_of_getElem? (i := 44) rfl) rfl
theorem aY_X1_seconds : Cond.laysFinal RX1 "ProofDesk$Formulas" "seconds" "[I" ∈ AW := in_t1 (List.mem_of_getElem? (i := 46) rfl) rfl
theorem aY_X1_letterSets : Cond.laysFinal RX1 "ProofDesk$Formulas" "letterSets" "[I" ∈ AW := in_t1 (List.mem_of_getElem? (i := 48) rfl) rfl
theorem aY_X1_sizes : Cond.laysFinal RX1 "ProofDesk$Formulas" "sizes" "[I" ∈ AW := in_t1 (List.mem_of_getElem? (i := 50) rfl) rfl
theorem aY_X1_widths : Cond.laysFinal RX1 "ProofDesk$Formulas" "widths" "[I" ∈ AW := in_t1 (List.mem_of_getElem? (i := 52) rfl) rfl
theorem aY_X1_truths : Cond.laysFinal RX1 "ProofDesk$Formulas" "truths" "[J" ∈ AW := in_t1 (List.mem_of_getElem? (i := 54) rfl) rfl
theorem aY_X1_known : Cond.lays RX1 "ProofDesk$Formulas" "known" "I" ∈ AW := in_t1 (List.mem_of_getElem? (i := 56) rfl) rfl
theorem aA_int : Cond.arrayClass .int ∈ AW := in_t1 (List.mem_of_getElem? (i := 59) rfl) rfl
theorem aA_long : Cond.arrayClass .long ∈ AW := in_t1 (List.mem_of_getElem? (i := 60) rfl) rfl
theorem aL_X7_16 : Cond.classLink RX7 16 RX5 ∈ AW := in_t1 (List.mem_of_getElem? (i := 61) rfl) rfl
theorem aX_X5 : Cond.instantiable RX5 5 ∈ AW := in_t1 (List.mem_of_getElem? (i := 62) rfl) rfl
theorem aM_X7_18 : Cond.methodLink RX7 18 yX5_init ∈ AW := in_t1 (List.mem_of_getElem? (i := 63) rfl) rfl
theorem aI_X5_init : Cond.instanceMethod yX5_init ∈ AW := in_t1 (List.mem_of_getElem? (i := 64) rfl) rfl
theorem aC_X5_init : Cond.code yX5_init cX5_init 2 none ∈ AW := in_t1 (List.mem_of_getElem? (i := 65) rfl) rfl
theorem aM_X5_3 : Cond.methodLink RX5 3 objectInit ∈ AW := in_t1 (List.mem_of_getElem? (i := 66) rfl) rfl
theorem aF_X5_19 : Cond.fieldLink RX5 19 "ProofDesk$Tape" "formulas" "LProofDesk$Formulas;" ∈ AW := in_t1 (List.mem_of_getElem? (i := 67) rfl) rfl
theorem aF_X5_9 : Cond.fieldLink RX5 9 "ProofDesk$Tape" "bytes" "[B" ∈ AW := in_t1 (List.mem_of_getElem? (i := 68) rfl) rfl
theorem aF_X5_23 : Cond.fieldLink RX5 23 "ProofDesk$Tape" "size" "I" ∈ AW := in_t1 (List.mem_of_getElem? (i := 69) rfl) rfl
theorem aF_X5_32 : Cond.fieldLink RX5 32 "ProofDesk$Tape" "at" "I" ∈ AW := in_t1 (List.mem_of_getElem? (i := 70) rfl) rfl
theorem aF_X5_15 : Cond.fieldLink RX5 15 "ProofDesk$Tape" "error" "I" ∈ AW := in_t1 (List.mem_of_getElem? (i := 71) rfl) rfl
theorem aY_X5_formulas : Cond.laysFinal RX5 "ProofDesk$Tape" "formulas" "LProofDesk$Formulas;" ∈ AW := in_t1 (List.mem_of_getElem? (i := 72) rfl) rfl
theorem aY_X5_bytes : Cond.laysFinal RX5 "ProofDesk$Tape" "bytes" "[B" ∈ AW := in_t1 (List.mem_of_getElem? (i := 74) rfl) rfl
theorem aY_X5_size : Cond.lays RX5 "ProofDesk$Tape" "size" "I" ∈ AW := in_t1 (List.mem_of_getElem? (i := 76) rfl) rfl
theorem aY_X5_at : Cond.lays RX5 "ProofDesk$Tape" "at" "I" ∈ AW := in_t1 (List.mem_of_getElem? (i := 78) rfl) rfl
theorem aY_X5_error : Cond.lays RX5 "ProofDesk$Tape" "error" "I" ∈ AW := in_t1 (List.mem_of_getElem? (i := 80) rfl) rfl
theorem aA_byte : Cond.arrayClass .byte ∈ AW := in_t1 (List.mem_of_getElem? (i := 83) rfl) rfl
theorem aL_X7_25 : Cond.classLink RX7 25 RX2 ∈ AW := in_t1 (List.mem_of_getElem? (i := 84) rfl) rfl
theorem aX_X2 : Cond.instantiable RX2 6 ∈ AW := in_t1 (List.mem_of_getElem? (i := 85) rfl) rfl
theorem aM_X7_27 : Cond.methodLink RX7 27 yX2_init ∈ AW := in_t1 (List.mem_of_getElem? (i := 86) rfl) rfl
theorem aI_X2_init : Cond.instanceMethod yX2_init ∈ AW := in_t1 (List.mem_of_getElem? (i := 87) rfl) rfl
theorem aC_X2_init : Cond.code yX2_init cX2_init 2 none ∈ AW := in_t1 (List.mem_of_getElem? (i := 88) rfl) rfl
theorem aM_X2_3 : Cond.methodLink RX2 3 objectInit ∈ AW := in_t1 (List.mem_of_getElem? (i := 89) rfl) rfl
theorem aF_X2_22 : Cond.fieldLink RX2 22 "ProofDesk$Paper" "formulas" "LProofDesk$Formulas;" ∈ AW := in_t1 (List.mem_of_getElem? (i := 90) rfl) rfl
theorem aF_X2_9 : Cond.fieldLink RX2 9 "ProofDesk$Paper" "bytes" "[B" ∈ AW := in_t1 (List.mem_of_getElem? (i := 91) rfl) rfl
theorem aF_X2_15 : Cond.fieldLink RX2 15 "ProofDesk$Paper" "waiting" "[I" ∈ AW := in_t1 (List.mem_of_getElem? (i := 92) rfl) rfl
theorem aF_X2_19 : Cond.fieldLink RX2 19 "ProofDesk$Paper" "places" "[I" ∈ AW := in_t1 (List.mem_of_getElem? (i := 93) rfl) rfl
theorem aF_X2_42 : Cond.fieldLink RX2 42 "ProofDesk$Paper" "waitingCount" "I" ∈ AW := in_t1 (List.mem_of_getElem? (i := 94) rfl) rfl
theorem aF_X2_26 : Cond.fieldLink RX2 26 "ProofDesk$Paper" "size" "I" ∈ AW := in_t1 (List.mem_of_getElem? (i := 95) rfl) rfl
theorem aY_X2_formulas : Cond.laysFinal RX2 "ProofDesk$Paper" "formulas" "LProofDesk$Formulas;" ∈ AW := in_t1 (List.mem_of_getElem? (i := 96) rfl) rfl
theorem aY_X2_bytes : Cond.laysFinal RX2 "ProofDesk$Paper" "bytes" "[B" ∈ AW := in_t1 (List.mem_of_getElem? (i := 98) rfl) rfl
theorem aY_X2_waiting : Cond.laysFinal RX2 "ProofDesk$Paper" "waiting" "[I" ∈ AW := in_t1 (List.mem_of_getElem? (i := 100) rfl) rfl
theorem aY_X2_places : Cond.laysFinal RX2 "ProofDesk$Paper" "places" "[I" ∈ AW := in_t1 (List.mem_of_getElem? (i := 102) rfl) rfl
theorem aY_X2_waitingCount : Cond.lays RX2 "ProofDesk$Paper" "waitingCount" "I" ∈ AW := in_t1 (List.mem_of_getElem? (i := 104) rfl) rfl
theorem aY_X2_size : Cond.lays RX2 "ProofDesk$Paper" "size" "I" ∈ AW := in_t1 (List.mem_of_getElem? (i := 106) rfl) rfl
theorem aL_X7_32 : Cond.classLink RX7 32 RX6 ∈ AW := in_t1 (List.mem_of_getElem? (i := 109) rfl) rfl
theorem aX_X6 : Cond.instantiable RX6 9 ∈ AW := in_t1 (List.mem_of_getElem? (i := 110) rfl) rfl
theorem aM_X7_34 : Cond.methodLink RX7 34 yX6_init ∈ AW := in_t1 (List.mem_of_getElem? (i := 111) rfl) rfl
theorem aI_X6_init : Cond.instanceMethod yX6_init ∈ AW := in_t1 (List.mem_of_getElem? (i := 112) rfl) rfl
theorem aC_X6_init : Cond.code yX6_init cX6_init 2 none ∈ AW := in_t1 (List.mem_of_getElem? (i := 113) rfl) rfl
theorem aM_X6_3 : Cond.methodLink RX6 3 objectInit ∈ AW := in_t1 (List.mem_of_getElem? (i := 114) rfl) rfl
theorem aF_X6_33 : Cond.fieldLink RX6 33 "ProofDesk$Theorems" "formulas" "LProofDesk$Formulas;" ∈ AW := in_t1 (List.mem_of_getElem? (i := 115) rfl) rfl
theorem aF_X6_9 : Cond.fieldLink RX6 9 "ProofDesk$Theorems" "conclusions" "[I" ∈ AW := in_t1 (List.mem_of_getElem? (i := 116) rfl) rfl
theorem aF_X6_15 : Cond.fieldLink RX6 15 "ProofDesk$Theorems" "firsts" "[I" ∈ AW := in_t1 (List.mem_of_getElem? (i := 117) rfl) rfl
theorem aF_X6_18 : Cond.fieldLink RX6 18 "ProofDesk$Theorems" "seconds" "[I" ∈ AW := in_t1 (List.mem_of_getElem? (i := 118) rfl) rfl
theorem aF_X6_21 : Cond.fieldLink RX6 21 "ProofDesk$Theorems" "lines" "[I" ∈ AW := in_t1 (List.mem_of_getElem? (i := 119) rfl) rfl
theorem aF_X6_24 : Cond.fieldLink RX6 24 "ProofDesk$Theorems" "needed" "[I" ∈ AW := in_t1 (List.mem_of_getElem? (i := 120) rfl) rfl
theorem aF_X6_27 : Cond.fieldLink RX6 27 "ProofDesk$Theorems" "uses" "[I" ∈ AW := in_t1 (List.mem_of_getElem? (i := 121) rfl) rfl
theorem aF_X6_30 : Cond.fieldLink RX6 30 "ProofDesk$Theorems" "images" "[I" ∈ AW := in_t1 (List.mem_of_getElem? (i := 122) rfl) rfl
theorem aF_X6_37 : Cond.fieldLink RX6 37 "ProofDesk$Theorems" "known" "I" ∈ AW := in_t1 (List.mem_of_getElem? (i := 123) rfl) rfl
theorem aY_X6_formulas : Cond.laysFinal RX6 "ProofDesk$Theorems" "formulas" "LProofDesk$Formulas;" ∈ AW := in_t1 (List.mem_of_getElem? (i := 124) rfl) rfl
theorem aY_X6_conclusions : Cond.laysFinal RX6 "ProofDesk$Theorems" "conclusions" "[I" ∈ AW := in_t1 (List.mem_of_getElem? (i := 126) rfl) rfl
theorem aY_X6_firsts : Cond.laysFinal RX6 "ProofDesk$Theorems" "firsts" "[I" ∈ AW := in_t1 (List.mem_of_getElem? (i := 128) rfl) rfl
theorem aY_X6_seconds : Cond.laysFinal RX6 "ProofDesk$Theorems" "seconds" "[I" ∈ AW := in_t1 (List.mem_of_getElem? (i := 130) rfl) rfl
theorem aY_X6_lines : Cond.laysFinal RX6 "ProofDesk$Theorems" "lines" "[I" ∈ AW := in_t1 (List.mem_of_getElem? (i := 132) rfl) rfl
theorem aY_X6_needed : Cond.laysFinal RX6 "ProofDesk$Theorems" "needed" "[I" ∈ AW := in_t1 (List.mem_of_getElem? (i := 134) rfl) rfl
theorem aY_X6_uses : Cond.laysFinal RX6 "ProofDesk$Theorems" "uses" "[I" ∈ AW := in_t1 (List.mem_of_getElem? (i := 136) rfl) rfl
theorem aY_X6_images : Cond.laysFinal RX6 "ProofDesk$Theorems" "images" "[I" ∈ AW := in_t1 (List.mem_of_getElem? (i := 138) rfl) rfl
theorem aY_X6_known : Cond.lays RX6 "ProofDesk$Theorems" "known" "I" ∈ AW := in_t1 (List.mem_of_getElem? (i := 140) rfl) rfl
theorem aL_X7_39 : Cond.classLink RX7 39 RX3 ∈ AW := in_t1 (List.mem_of_getElem? (i := 143) rfl) rfl
theorem aX_X3 : Cond.instantiable RX3 12 ∈ AW := in_t1 (List.mem_of_getElem? (i := 144) rfl) rfl
theorem aM_X7_41 : Cond.methodLink RX7 41 yX3_init ∈ AW := in_t1 (List.mem_of_getElem? (i := 145) rfl) rfl
theorem aI_X3_init : Cond.instanceMethod yX3_init ∈ AW := in_t1 (List.mem_of_getElem? (i := 146) rfl) rfl
theorem aC_X3_init : Cond.code yX3_init cX3_init 3 none ∈ AW := in_t1 (List.mem_of_getElem? (i := 147) rfl) rfl
theorem aM_X3_3 : Cond.methodLink RX3 3 objectInit ∈ AW := in_t1 (List.mem_of_getElem? (i := 148) rfl) rfl
theorem aL_X3_9 : Cond.classLink RX3 9 RX0 ∈ AW := in_t1 (List.mem_of_getElem? (i := 149) rfl) rfl
theorem aX_X0 : Cond.instantiable RX0 6 ∈ AW := in_t1 (List.mem_of_getElem? (i := 150) rfl) rfl
theorem aI_X0_init : Cond.instanceMethod yX0_init ∈ AW := in_t1 (List.mem_of_getElem? (i := 152) rfl) rfl
theorem aC_X0_init : Cond.code yX0_init cX0_init 1 none ∈ AW := in_t1 (List.mem_of_getElem? (i := 153) rfl) rfl
theorem aM_X0_3 : Cond.methodLink RX0 3 objectInit ∈ AW := in_t1 (List.mem_of_getElem? (i := 154) rfl) rfl
theorem aF_X0_9 : Cond.fieldLink RX0 9 "ProofDesk$Boxes" "firsts" "[I" ∈ AW := in_t1 (List.mem_of_getElem? (i := 155) rfl) rfl
theorem aF_X0_15 : Cond.fieldLink RX0 15 "ProofDesk$Boxes" "lasts" "[I" ∈ AW := in_t1 (List.mem_of_getElem? (i := 156) rfl) rfl
theorem aF_X0_18 : Cond.fieldLink RX0 18 "ProofDesk$Boxes" "outers" "[I" ∈ AW := in_t1 (List.mem_of_getElem? (i := 157) rfl) rfl
theorem aF_X0_25 : Cond.fieldLink RX0 25 "ProofDesk$Boxes" "known" "I" ∈ AW := in_t1 (List.mem_of_getElem? (i := 158) rfl) rfl
theorem aF_X0_28 : Cond.fieldLink RX0 28 "ProofDesk$Boxes" "open" "I" ∈ AW := in_t1 (List.mem_of_getElem? (i := 159) rfl) rfl
theorem aF_X0_21 : Cond.fieldLink RX0 21 "ProofDesk$Boxes" "innermost" "I" ∈ AW := in_t1 (List.mem_of_getElem? (i := 160) rfl) rfl
theorem aY_X0_firsts : Cond.laysFinal RX0 "ProofDesk$Boxes" "firsts" "[I" ∈ AW := in_t1 (List.mem_of_getElem? (i := 161) rfl) rfl
theorem aY_X0_lasts : Cond.laysFinal RX0 "ProofDesk$Boxes" "lasts" "[I" ∈ AW := in_t1 (List.mem_of_getElem? (i := 163) rfl) rfl
theorem aY_X0_outers : Cond.laysFinal RX0 "ProofDesk$Boxes" "outers" "[I" ∈ AW := in_t1 (List.mem_of_getElem? (i := 165) rfl) rfl
theorem aY_X0_known : Cond.lays RX0 "ProofDesk$Boxes" "known" "I" ∈ AW := in_t1 (List.mem_of_getElem? (i := 167) rfl) rfl
theorem aY_X0_open : Cond.lays RX0 "ProofDesk$Boxes" "open" "I" ∈ AW := in_t1 (List.mem_of_getElem? (i := 169) rfl) rfl
theorem aY_X0_innermost : Cond.lays RX0 "ProofDesk$Boxes" "innermost" "I" ∈ AW := in_t1 (List.mem_of_getElem? (i := 171) rfl) rfl
theorem aF_X3_41 : Cond.fieldLink RX3 41 "ProofDesk$Proof" "formulas" "LProofDesk$Formulas;" ∈ AW := in_t1 (List.mem_of_getElem? (i := 174) rfl) rfl
theorem aF_X3_45 : Cond.fieldLink RX3 45 "ProofDesk$Proof" "theorems" "LProofDesk$Theorems;" ∈ AW := in_t1 (List.mem_of_getElem? (i := 175) rfl) rfl
theorem aF_X3_12 : Cond.fieldLink RX3 12 "ProofDesk$Proof" "boxes" "LProofDesk$Boxes;" ∈ AW := in_t1 (List.mem_of_getElem? (i := 176) rfl) rfl
theorem aF_X3_18 : Cond.fieldLink RX3 18 "ProofDesk$Proof" "lineFormulas" "[I" ∈ AW := in_t1 (List.mem_of_getElem? (i := 177) rfl) rfl
theorem aF_X3_22 : Cond.fieldLink RX3 22 "ProofDesk$Proof" "lineRules" "[I" ∈ AW := in_t1 (List.mem_of_getElem? (i := 178) rfl) rfl
theorem aF_X3_25 : Cond.fieldLink RX3 25 "ProofDesk$Proof" "references" "[I" ∈ AW := in_t1 (List.mem_of_getElem? (i := 179) rfl) rfl
theorem aF_X3_28 : Cond.fieldLink RX3 28 "ProofDesk$Proof" "kinds" "[I" ∈ AW := in_t1 (List.mem_of_getElem? (i := 180) rfl) rfl
theorem aF_X3_31 : Cond.fieldLink RX3 31 "ProofDesk$Proof" "lineBoxes" "[I" ∈ AW := in_t1 (List.mem_of_getElem? (i := 181) rfl) rfl
theorem aF_X3_34 : Cond.fieldLink RX3 34 "ProofDesk$Proof" "needed" "[Z" ∈ AW := in_t1 (List.mem_of_getElem? (i := 182) rfl) rfl
theorem aF_X3_38 : Cond.fieldLink RX3 38 "ProofDesk$Proof" "deeds" "[I" ∈ AW := in_t1 (List.mem_of_getElem? (i := 183) rfl) rfl
theorem aF_X3_85 : Cond.fieldLink RX3 85 "ProofDesk$Proof" "deedCount" "I" ∈ AW := in_t1 (List.mem_of_getElem? (i := 184) rfl) rfl
theorem aF_X3_49 : Cond.fieldLink RX3 49 "ProofDesk$Proof" "lineCount" "I" ∈ AW := in_t1 (List.mem_of_getElem? (i := 185) rfl) rfl
theorem aY_X3_formulas : Cond.laysFinal RX3 "ProofDesk$Proof" "formulas" "LProofDesk$Formulas;" ∈ AW := in_t1 (List.mem_of_getElem? (i := 186) rfl) rfl
theorem aY_X3_theorems : Cond.laysFinal RX3 "ProofDesk$Proof" "theorems" "LProofDesk$Theorems;" ∈ AW := in_t1 (List.mem_of_getElem? (i := 188) rfl) rfl
theorem aY_X3_boxes : Cond.laysFinal RX3 "ProofDesk$Proof" "boxes" "LProofDesk$Boxes;" ∈ AW := in_t1 (List.mem_of_getElem? (i := 190) rfl) rfl
theorem aY_X3_lineFormulas : Cond.laysFinal RX3 "ProofDesk$Proof" "lineFormulas" "[I" ∈ AW := in_t1 (List.mem_of_getElem? (i := 192) rfl) rfl
theorem aY_X3_lineRules : Cond.laysFinal RX3 "ProofDesk$Proof" "lineRules" "[I" ∈ AW := in_t1 (List.mem_of_getElem? (i := 194) rfl) rfl
theorem aY_X3_references : Cond.laysFinal RX3 "ProofDesk$Proof" "references" "[I" ∈ AW := in_t1 (List.mem_of_getElem? (i := 196) rfl) rfl
theorem aY_X3_kinds : Cond.laysFinal RX3 "ProofDesk$Proof" "kinds" "[I" ∈ AW := in_t1 (List.mem_of_getElem? (i := 198) rfl) rfl
theorem aY_X3_lineBoxes : Cond.laysFinal RX3 "ProofDesk$Proof" "lineBoxes" "[I" ∈ AW := in_t1 (List.mem_of_getElem? (i := 200) rfl) rfl
theorem aY_X3_needed : Cond.laysFinal RX3 "ProofDesk$Proof" "needed" "[Z" ∈ AW := in_t1 (List.mem_of_getElem? (i := 202) rfl) rfl
theorem aY_X3_deeds : Cond.laysFinal RX3 "ProofDesk$Proof" "deeds" "[I" ∈ AW := in_t1 (List.mem_of_getElem? (i := 204) rfl) rfl
theorem aY_X3_deedCount : Cond.lays RX3 "ProofDesk$Proof" "deedCount" "I" ∈ AW := in_t1 (List.mem_of_getElem? (i := 206) rfl) rfl
theorem aY_X3_lineCount : Cond.lays RX3 "ProofDesk$Proof" "lineCount" "I" ∈ AW := in_t1 (List.mem_of_getElem? (i := 208) rfl) rfl
theorem aA_boolean : Cond.arrayClass .boolean ∈ AW := in_t1 (List.mem_of_getElem? (i := 211) rfl) rfl
theorem aL_X7_48 : Cond.classLink RX7 48 RX4 ∈ AW := in_t1 (List.mem_of_getElem? (i := 212) rfl) rfl
theorem aX_X4 : Cond.instantiable RX4 4 ∈ AW := in_t1 (List.mem_of_getElem? (i := 213) rfl) rfl
theorem aM_X7_50 : Cond.methodLink RX7 50 yX4_init ∈ AW := in_t1 (List.mem_of_getElem? (i := 214) rfl) rfl
theorem aI_X4_init : Cond.instanceMethod yX4_init ∈ AW := in_t1 (List.mem_of_getElem? (i := 215) rfl) rfl
theorem aC_X4_init : Cond.code yX4_init cX4_init 4 none ∈ AW := in_t1 (List.mem_of_getElem? (i := 216) rfl) rfl
theorem aM_X4_3 : Cond.methodLink RX4 3 objectInit ∈ AW := in_t1 (List.mem_of_getElem? (i := 217) rfl) rfl
theorem aF_X4_15 : Cond.fieldLink RX4 15 "ProofDesk$Rules" "formulas" "LProofDesk$Formulas;" ∈ AW := in_t1 (List.mem_of_getElem? (i := 218) rfl) rfl
theorem aF_X4_19 : Cond.fieldLink RX4 19 "ProofDesk$Rules" "theorems" "LProofDesk$Theorems;" ∈ AW := in_t1 (List.mem_of_getElem? (i := 219) rfl) rfl
theorem aF_X4_23 : Cond.fieldLink RX4 23 "ProofDesk$Rules" "proof" "LProofDesk$Proof;" ∈ AW := in_t1 (List.mem_of_getElem? (i := 220) rfl) rfl
theorem aF_X4_9 : Cond.fieldLink RX4 9 "ProofDesk$Rules" "found" "[I" ∈ AW := in_t1 (List.mem_of_getElem? (i := 221) rfl) rfl
theorem aY_X4_formulas : Cond.laysFinal RX4 "ProofDesk$Rules" "formulas" "LProofDesk$Formulas;" ∈ AW := in_t1 (List.mem_of_getElem? (i := 222) rfl) rfl
theorem aY_X4_theorems : Cond.laysFinal RX4 "ProofDesk$Rules" "theorems" "LProofDesk$Theorems;" ∈ AW := in_t1 (List.mem_of_getElem? (i := 224) rfl) rfl
theorem aY_X4_proof : Cond.laysFinal RX4 "ProofDesk$Rules" "proof" "LProofDesk$Proof;" ∈ AW := in_t1 (List.mem_of_getElem? (i := 226) rfl) rfl
theorem aY_X4_found : Cond.laysFinal RX4 "ProofDesk$Rules" "found" "[I" ∈ AW := in_t1 (List.mem_of_getElem? (i := 228) rfl) rfl
theorem aF_X7_10 : Cond.fieldLink RX7 10 "ProofDesk" "formulas" "LProofDesk$Formulas;" ∈ AW := in_t1 (List.mem_of_getElem? (i := 231) rfl) rfl
theorem aF_X7_21 : Cond.fieldLink RX7 21 "ProofDesk" "tape" "LProofDesk$Tape;" ∈ AW := in_t1 (List.mem_of_getElem? (i := 232) rfl) rfl
theorem aF_X7_28 : Cond.fieldLink RX7 28 "ProofDesk" "paper" "LProofDesk$Paper;" ∈ AW := in_t1 (List.mem_of_getElem? (i := 233) rfl) rfl
theorem aF_X7_35 : Cond.fieldLink RX7 35 "ProofDesk" "theorems" "LProofDesk$Theorems;" ∈ AW := in_t1 (List.mem_of_getElem? (i := 234) rfl) rfl
theorem aF_X7_44 : Cond.fieldLink RX7 44 "ProofDesk" "proof" "LProofDesk$Proof;" ∈ AW := in_t1 (List.mem_of_getElem? (i := 235) rfl) rfl
theorem aF_X7_53 : Cond.fieldLink RX7 53 "ProofDesk" "rules" "LProofDesk$Rules;" ∈ AW := in_t1 (List.mem_of_getElem? (i := 236) rfl) rfl
theorem aY_X7_formulas : Cond.laysFinal RX7 "ProofDesk" "formulas" "LProofDesk$Formulas;" ∈ AW := in_t1 (List.mem_of_getElem? (i := 237) rfl) rfl
theorem aY_X7_tape : Cond.laysFinal RX7 "ProofDesk" "tape" "LProofDesk$Tape;" ∈ AW := in_t1 (List.mem_of_getElem? (i := 239) rfl) rfl
theorem aY_X7_paper : Cond.laysFinal RX7 "ProofDesk" "paper" "LProofDesk$Paper;" ∈ AW := in_t2 (List.mem_of_getElem? (i := 1) rfl) rfl
theorem aY_X7_theorems : Cond.laysFinal RX7 "ProofDesk" "theorems" "LProofDesk$Theorems;" ∈ AW := in_t2 (List.mem_of_getElem? (i := 3) rfl) rfl
theorem aY_X7_proof : Cond.laysFinal RX7 "ProofDesk" "proof" "LProofDesk$Proof;" ∈ AW := in_t2 (List.mem_of_getElem? (i := 5) rfl) rfl
theorem aY_X7_rules : Cond.laysFinal RX7 "ProofDesk" "rules" "LProofDesk$Rules;" ∈ AW := in_t2 (List.mem_of_getElem? (i := 7) rfl) rfl
theorem aM_L_98 : Cond.methodLink RL 98 yX7_read ∈ AW := in_t2 (List.mem_of_getElem? (i := 10) rfl) rfl
theorem aI_X7_read : Cond.instanceMethod yX7_read ∈ AW := in_t2 (List.mem_of_getElem? (i := 11) rfl) rfl
theorem aS_X7_read : Cond.selects RX7 yX7_read yX7_read ∈ AW := in_t2 (List.mem_of_getElem? (i := 12) rfl) rfl
theorem aC_X7_read : Cond.code yX7_read cX7_read 1 (some .int) ∈ AW := in_t2 (List.mem_of_getElem? (i := 13) rfl) rfl
theorem aM_X7_80 : Cond.methodLink RX7 80 yX5_parse ∈ AW := in_t2 (List.mem_of_getElem? (i := 14) rfl) rfl
theorem aI_X5_parse : Cond.instanceMethod yX5_parse ∈ AW := in_t2 (List.mem_of_getElem? (i := 15) rfl) rfl
theorem aS_X5_parse : Cond.selects RX5 yX5_parse yX5_parse ∈ AW := in_t2 (List.mem_of_getElem? (i := 16) rfl) rfl
theorem aC_X5_parse : Cond.code yX5_parse cX5_parse 3 (some .int) ∈ AW := in_t2 (List.mem_of_getElem? (i := 17) rfl) rfl
theorem aM_X5_26 : Cond.methodLink RX5 26 yX1_known ∈ AW := in_t2 (List.mem_of_getElem? (i := 18) rfl) rfl
theorem aI_X1_known : Cond.instanceMethod yX1_known ∈ AW := in_t2 (List.mem_of_getElem? (i := 19) rfl) rfl
theorem aS_X1_known : Cond.selects RX1 yX1_known yX1_known ∈ AW := in_t2 (List.mem_of_getElem? (i := 20) rfl) rfl
theorem aC_X1_known : Cond.code yX1_known cX1_known 1 (some .int) ∈ AW := in_t2 (List.mem_of_getElem? (i := 21) rfl) rfl
theorem aM_X5_35 : Cond.methodLink RX5 35 yX5_form ∈ AW := in_t2 (List.mem_of_getElem? (i := 22) rfl) rfl
theorem aI_X5_form : Cond.instanceMethod yX5_form ∈ AW := in_t2 (List.mem_of_getElem? (i := 24) rfl) rfl
theorem aC_X5_form : Cond.code yX5_form cX5_form 4 (some .int) ∈ AW := in_t2 (List.mem_of_getElem? (i := 25) rfl) rfl
theorem aM_X5_49 : Cond.methodLink RX5 49 yX5_both ∈ AW := in_t2 (List.mem_of_getElem? (i := 26) rfl) rfl
theorem aI_X5_both : Cond.instanceMethod yX5_both ∈ AW := in_t2 (List.mem_of_getElem? (i := 28) rfl) rfl
theorem aC_X5_both : Cond.code yX5_both cX5_both 4 (some .int) ∈ AW := in_t2 (List.mem_of_getElem? (i := 29) rfl) rfl
theorem aM_X5_60 : Cond.methodLink RX5 60 yX5_plain ∈ AW := in_t2 (List.mem_of_getElem? (i := 30) rfl) rfl
theorem aI_X5_plain : Cond.instanceMethod yX5_plain ∈ AW := in_t2 (List.mem_of_getElem? (i := 32) rfl) rfl
theorem aC_X5_plain : Cond.code yX5_plain cX5_plain 4 (some .int) ∈ AW := in_t2 (List.mem_of_getElem? (i := 33) rfl) rfl
theorem aM_X5_39 : Cond.methodLink RX5 39 yX5_next ∈ AW := in_t2 (List.mem_of_getElem? (i := 34) rfl) rfl
theorem aI_X5_next : Cond.instanceMethod yX5_next ∈ AW := in_t2 (List.mem_of_getElem? (i := 36) rfl) rfl
theorem aC_X5_next : Cond.code yX5_next cX5_next 1 (some .int) ∈ AW := in_t2 (List.mem_of_getElem? (i := 37) rfl) rfl
theorem aM_X5_42 : Cond.methodLink RX5 42 yX5_fail ∈ AW := in_t2 (List.mem_of_getElem? (i := 38) rfl) rfl
theorem aI_X5_fail : Cond.instanceMethod yX5_fail ∈ AW := in_t2 (List.mem_of_getElem? (i := 40) rfl) rfl
theorem aC_X5_fail : Cond.code yX5_fail cX5_fail 1 (some .int) ∈ AW := in_t2 (List.mem_of_getElem? (i := 41) rfl) rfl
theorem aM_X5_56 : Cond.methodLink RX5 56 yX1_number ∈ AW := in_t2 (List.mem_of_getElem? (i := 42) rfl) rfl
theorem aI_X1_number : Cond.instanceMethod yX1_number ∈ AW := in_t2 (List.mem_of_getElem? (i := 43) rfl) rfl
theorem aS_X1_number : Cond.selects RX1 yX1_number yX1_number ∈ AW := in_t2 (List.mem_of_getElem? (i := 44) rfl) rfl
theorem aC_X1_number : Cond.code yX1_number cX1_number 7 (some .int) ∈ AW := in_t2 (List.mem_of_getElem? (i := 45) rfl) rfl
theorem aM_X1_52 : Cond.methodLink RX1 52 yX1_hasParts ∈ AW := in_t2 (List.mem_of_getElem? (i := 46) rfl) rfl
theorem aI_X1_hasParts : Cond.instanceMethod yX1_hasParts ∈ AW := in_t2 (List.mem_of_getElem? (i := 47) rfl) rfl
theorem aS_X1_hasParts : Cond.selects RX1 yX1_hasParts yX1_hasParts ∈ AW := in_t2 (List.mem_of_getElem? (i := 48) rfl) rfl
theorem aC_X1_hasParts : Cond.code yX1_hasParts cX1_hasParts 4 (some .boolean) ∈ AW := in_t2 (List.mem_of_getElem? (i := 49) rfl) rfl
theorem aM_X1_48 : Cond.methodLink RX1 48 yX1_isKnown ∈ AW := in_t2 (List.mem_of_getElem? (i := 50) rfl) rfl
theorem aI_X1_isKnown : Cond.instanceMethod yX1_isKnown ∈ AW := in_t2 (List.mem_of_getElem? (i := 51) rfl) rfl
theorem aS_X1_isKnown : Cond.selects RX1 yX1_isKnown yX1_isKnown ∈ AW := in_t2 (List.mem_of_getElem? (i := 52) rfl) rfl
theorem aC_X1_isKnown : Cond.code yX1_isKnown cX1_isKnown 2 (some .boolean) ∈ AW := in_t2 (List.mem_of_getElem? (i := 53) rfl) rfl
theorem aM_X1_56 : Cond.methodLink RX1 56 yX1_find ∈ AW := in_t2 (List.mem_of_getElem? (i := 54) rfl) rfl
theorem aI_X1_find : Cond.instanceMethod yX1_find ∈ AW := in_t2 (List.mem_of_getElem? (i := 55) rfl) rfl
theorem aS_X1_find : Cond.selects RX1 yX1_find yX1_find ∈ AW := in_t2 (List.mem_of_getElem? (i := 56) rfl) rfl
theorem aC_X1_find : Cond.code yX1_find cX1_find 5 (some .int) ∈ AW := in_t2 (List.mem_of_getElem? (i := 57) rfl) rfl
theorem aM_X1_60 : Cond.methodLink RX1 60 yX1_add ∈ AW := in_t2 (List.mem_of_getElem? (i := 58) rfl) rfl
theorem aI_X1_add : Cond.instanceMethod yX1_add ∈ AW := in_t2 (List.mem_of_getElem? (i := 60) rfl) rfl
theorem aC_X1_add : Cond.code yX1_add cX1_add 8 none ∈ AW := in_t2 (List.mem_of_getElem? (i := 61) rfl) rfl
theorem aM_X1_64 : Cond.methodLink RX1 64 yX1_letters ∈ AW := in_t2 (List.mem_of_getElem? (i := 62) rfl) rfl
theorem aI_X1_letters : Cond.instanceMethod yX1_letters ∈ AW := in_t2 (List.mem_of_getElem? (i := 63) rfl) rfl
theorem aS_X1_letters : Cond.selects RX1 yX1_letters yX1_letters ∈ AW := in_t2 (List.mem_of_getElem? (i := 64) rfl) rfl
theorem aC_X1_letters : Cond.code yX1_letters cX1_letters 2 (some .int) ∈ AW := in_t2 (List.mem_of_getElem? (i := 65) rfl) rfl
theorem aK_X1_68 : Cond.constant RX1 68 (1000000) ∈ AW := in_t2 (List.mem_of_getElem? (i := 66) rfl) rfl
theorem aM_X1_69 : Cond.methodLink RX1 69 yX1_size ∈ AW := in_t2 (List.mem_of_getElem? (i := 67) rfl) rfl
theorem aI_X1_size : Cond.instanceMethod yX1_size ∈ AW := in_t2 (List.mem_of_getElem? (i := 68) rfl) rfl
theorem aS_X1_size : Cond.selects RX1 yX1_size yX1_size ∈ AW := in_t2 (List.mem_of_getElem? (i := 69) rfl) rfl
theorem aC_X1_size : Cond.code yX1_size cX1_size 2 (some .int) ∈ AW := in_t2 (List.mem_of_getElem? (i := 70) rfl) rfl
theorem aM_X1_72 : Cond.methodLink RX1 72 yJ9_min_7cf53 ∈ AW := in_t2 (List.mem_of_getElem? (i := 71) rfl) rfl
theorem aT_J9_min_7cf53 : Cond.static yJ9_min_7cf53 ∈ AW := in_t2 (List.mem_of_getElem? (i := 72) rfl) rfl
theorem aC_J9_min_7cf53 : Cond.code yJ9_min_7cf53 cJ9_min_7cf53 2 (some .int) ∈ AW := in_t2 (List.mem_of_getElem? (i := 73) rfl) rfl
theorem aM_X1_78 : Cond.methodLink RX1 78 yX1_sort ∈ AW := in_t2 (List.mem_of_getElem? (i := 74) rfl) rfl
theorem aI_X1_sort : Cond.instanceMethod yX1_sort ∈ AW := in_t2 (List.mem_of_getElem? (i := 75) rfl) rfl
theorem aS_X1_sort : Cond.selects RX1 yX1_sort yX1_sort ∈ AW := in_t2 (List.mem_of_getElem? (i := 76) rfl) rfl
theorem aC_X1_sort : Cond.code yX1_sort cX1_sort 2 (some .int) ∈ AW := in_t2 (List.mem_of_getElem? (i := 77) rfl) rfl
theorem aM_X1_81 : Cond.methodLink RX1 81 yX1_needsBrackets ∈ AW := in_t2 (List.mem_of_getElem? (i := 78) rfl) rfl
theorem aT_X1_needsBrackets : Cond.static yX1_needsBrackets ∈ AW := in_t2 (List.mem_of_getElem? (i := 79) rfl) rfl
theorem aC_X1_needsBrackets : Cond.code yX1_needsBrackets cX1_needsBrackets 3 (some .boolean) ∈ AW := in_t2 (List.mem_of_getElem? (i := 80) rfl) rfl
theorem aM_X1_85 : Cond.methodLink RX1 85 yX1_width ∈ AW := in_t2 (List.mem_of_getElem? (i := 81) rfl) rfl
theorem aI_X1_width : Cond.instanceMethod yX1_width ∈ AW := in_t2 (List.mem_of_getElem? (i := 82) rfl) rfl
theorem aS_X1_width : Cond.selects RX1 yX1_width yX1_width ∈ AW := in_t2 (List.mem_of_getElem? (i := 83) rfl) rfl
theorem aC_X1_width : Cond.code yX1_width cX1_width 2 (some .int) ∈ AW := in_t2 (List.mem_of_getElem? (i := 84) rfl) rfl
theorem aM_X1_88 : Cond.methodLink RX1 88 yX1_truthOfLetter ∈ AW := in_t2 (List.mem_of_getElem? (i := 85) rfl) rfl
theorem aT_X1_truthOfLetter : Cond.static yX1_truthOfLetter ∈ AW := in_t2 (List.mem_of_getElem? (i := 86) rfl) rfl
theorem aC_X1_truthOfLetter : Cond.code yX1_truthOfLetter cX1_truthOfLetter 2 (some .long) ∈ AW := in_t2 (List.mem_of_getElem? (i := 87) rfl) rfl
theorem aF_X1_95 : Cond.fieldLink RX1 95 "ProofDesk$Formulas" "LETTER_WORDS" "[J" ∈ AW := in_t2 (List.mem_of_getElem? (i := 88) rfl) rfl
theorem aK_X1_98 : Cond.constantLong RX1 98 (-1) ∈ AW := in_t2 (List.mem_of_getElem? (i := 90) rfl) rfl
theorem aM_X1_38 : Cond.methodLink RX1 38 yX1_truth ∈ AW := in_t2 (List.mem_of_getElem? (i := 91) rfl) rfl
theorem aI_X1_truth : Cond.instanceMethod yX1_truth ∈ AW := in_t2 (List.mem_of_getElem? (i := 92) rfl) rfl
theorem aS_X1_truth : Cond.selects RX1 yX1_truth yX1_truth ∈ AW := in_t2 (List.mem_of_getElem? (i := 93) rfl) rfl
theorem aC_X1_truth : Cond.code yX1_truth cX1_truth 3 (some .long) ∈ AW := in_t2 (List.mem_of_getElem? (i := 94) rfl) rfl
theorem aM_X1_91 : Cond.methodLink RX1 91 yX1_truthOfParts ∈ AW := in_t2 (List.mem_of_getElem? (i := 95) rfl) rfl
theorem aT_X1_truthOfParts : Cond.static yX1_truthOfParts ∈ AW := in_t2 (List.mem_of_getElem? (i := 96) rfl) rfl
theorem aC_X1_truthOfParts : Cond.code yX1_truthOfParts cX1_truthOfParts 5 (some .long) ∈ AW := in_t2 (List.mem_of_getElem? (i := 97) rfl) rfl
theorem aM_X5_52 : Cond.methodLink RX5 52 yX5_takes ∈ AW := in_t2 (List.mem_of_getElem? (i := 98) rfl) rfl
theorem aI_X5_takes : Cond.instanceMethod yX5_takes ∈ AW := in_t2 (List.mem_of_getElem? (i := 100) rfl) rfl
theorem aC_X5_takes : Cond.code yX5_takes cX5_takes 2 (some .boolean) ∈ AW := in_t2 (List.mem_of_getElem? (i := 101) rfl) rfl
theorem aM_X5_45 : Cond.methodLink RX5 45 yX1_forgetFrom ∈ AW := in_t2 (List.mem_of_getElem? (i := 102) rfl) rfl
theorem aI_X1_forgetFrom : Cond.instanceMethod yX1_forgetFrom ∈ AW := in_t2 (List.mem_of_getElem? (i := 103) rfl) rfl
theorem aS_X1_forgetFrom : Cond.selects RX1 yX1_forgetFrom yX1_forgetFrom ∈ AW := in_t2 (List.mem_of_getElem? (i := 104) rfl) rfl
theorem aC_X1_forgetFrom : Cond.code yX1_forgetFrom cX1_forgetFrom 2 none ∈ AW := in_t2 (List.mem_of_getElem? (i := 105) rfl) rfl
theorem aM_L_102 : Cond.methodLink RL 102 yX7_errorAt ∈ AW := in_t2 (List.mem_of_getElem? (i := 106) rfl) rfl
theorem aI_X7_errorAt : Cond.instanceMethod yX7_errorAt ∈ AW := in_t2 (List.mem_of_getElem? (i := 107) rfl) rfl
theorem aS_X7_errorAt : Cond.selects RX7 yX7_errorAt yX7_errorAt ∈ AW := in_t2 (List.mem_of_getElem? (i := 108) rfl) rfl
theorem aC_X7_errorAt : Cond.code yX7_errorAt cX7_errorAt 1 (some .int) ∈ AW := in_t2 (List.mem_of_getElem? (i := 109) rfl) rfl
theorem aM_X7_83 : Cond.methodLink RX7 83 yX5_error ∈ AW := in_t2 (List.mem_of_getElem? (i := 110) rfl) rfl
theorem aI_X5_error : Cond.instanceMethod yX5_error ∈ AW := in_t2 (List.mem_of_getElem? (i := 111) rfl) rfl
theorem aS_X5_error : Cond.selects RX5 yX5_error yX5_error ∈ AW := in_t2 (List.mem_of_getElem? (i := 112) rfl) rfl
theorem aC_X5_error : Cond.code yX5_error cX5_error 1 (some .int) ∈ AW := in_t2 (List.mem_of_getElem? (i := 113) rfl) rfl
theorem aM_L_123 : Cond.methodLink RL 123 yX7_begin ∈ AW := in_t2 (List.mem_of_getElem? (i := 114) rfl) rfl
theorem aI_X7_begin : Cond.instanceMethod yX7_begin ∈ AW := in_t2 (List.mem_of_getElem? (i := 115) rfl) rfl
theorem aS_X7_begin : Cond.selects RX7 yX7_begin yX7_begin ∈ AW := in_t2 (List.mem_of_getElem? (i := 116) rfl) rfl
theorem aC_X7_begin : Cond.code yX7_begin cX7_begin 2 (some .int) ∈ AW := in_t2 (List.mem_of_getElem? (i := 117) rfl) rfl
theorem aM_X7_151 : Cond.methodLink RX7 151 yX3_lineCount ∈ AW := in_t2 (List.mem_of_getElem? (i := 118) rfl) rfl
theorem aI_X3_lineCount : Cond.instanceMethod yX3_lineCount ∈ AW := in_t2 (List.mem_of_getElem? (i := 119) rfl) rfl
theorem aS_X3_lineCount : Cond.selects RX3 yX3_lineCount yX3_lineCount ∈ AW := in_t2 (List.mem_of_getElem? (i := 120) rfl) rfl
theorem aC_X3_lineCount : Cond.code yX3_lineCount cX3_lineCount 1 (some .int) ∈ AW := in_t2 (List.mem_of_getElem? (i := 121) rfl) rfl
theorem aM_X7_154 : Cond.methodLink RX7 154 yX3_clear ∈ AW := in_t2 (List.mem_of_getElem? (i := 122) rfl) rfl
theorem aI_X3_clear : Cond.instanceMethod yX3_clear ∈ AW := in_t2 (List.mem_of_getElem? (i := 123) rfl) rfl
theorem aS_X3_clear : Cond.selects RX3 yX3_clear yX3_clear ∈ AW := in_t2 (List.mem_of_getElem? (i := 124) rfl) rfl
theorem aC_X3_clear : Cond.code yX3_clear cX3_clear 1 none ∈ AW := in_t2 (List.mem_of_getElem? (i := 125) rfl) rfl
theorem aM_X3_82 : Cond.methodLink RX3 82 yX0_clear ∈ AW := in_t2 (List.mem_of_getElem? (i := 126) rfl) rfl
theorem aI_X0_clear : Cond.instanceMethod yX0_clear ∈ AW := in_t2 (List.mem_of_getElem? (i := 127) rfl) rfl
theorem aS_X0_clear : Cond.selects RX0 yX0_clear yX0_clear ∈ AW := in_t2 (List.mem_of_getElem? (i := 128) rfl) rfl
theorem aC_X0_clear : Cond.code yX0_clear cX0_clear 1 none ∈ AW := in_t2 (List.mem_of_getElem? (i := 129) rfl) rfl
theorem aM_L_167 : Cond.methodLink RL 167 yX7_thrift ∈ AW := in_t2 (List.mem_of_getElem? (i := 130) rfl) rfl
theorem aI_X7_thrift : Cond.instanceMethod yX7_thrift ∈ AW := in_t2 (List.mem_of_getElem? (i := 131) rfl) rfl
theorem aS_X7_thrift : Cond.selects RX7 yX7_thrift yX7_thrift ∈ AW := in_t2 (List.mem_of_getElem? (i := 132) rfl) rfl
theorem aC_X7_thrift : Cond.code yX7_thrift cX7_thrift 1 (some .double) ∈ AW := in_t2 (List.mem_of_getElem? (i := 133) rfl) rfl
theorem aM_X7_294 : Cond.methodLink RX7 294 yX6_neededShare ∈ AW := in_t2 (List.mem_of_getElem? (i := 134) rfl) rfl
theorem aI_X6_neededShare : Cond.instanceMethod yX6_neededShare ∈ AW := in_t2 (List.mem_of_getElem? (i := 135) rfl) rfl
theorem aS_X6_neededShare : Cond.selects RX6 yX6_neededShare yX6_neededShare ∈ AW := in_t2 (List.mem_of_getElem? (i := 136) rfl) rfl
theorem aC_X6_neededShare : Cond.code yX6_neededShare cX6_neededShare 4 (some .double) ∈ AW := in_t2 (List.mem_of_getElem? (i := 137) rfl) rfl
theorem aM_L_172 : Cond.methodLink RL 172 yX7_digest ∈ AW := in_t2 (List.mem_of_getElem? (i := 138) rfl) rfl
theorem aI_X7_digest : Cond.instanceMethod yX7_digest ∈ AW := in_t2 (List.mem_of_getElem? (i := 139) rfl) rfl
theorem aS_X7_digest : Cond.selects RX7 yX7_digest yX7_digest ∈ AW := in_t2 (List.mem_of_getElem? (i := 140) rfl) rfl
theorem aC_X7_digest : Cond.code yX7_digest cX7_digest 4 (some .long) ∈ AW := in_t2 (List.mem_of_getElem? (i := 141) rfl) rfl
theorem aK_X7_298 : Cond.constantLong RX7 298 (419) ∈ AW := in_t2 (List.mem_of_getElem? (i := 142) rfl) rfl
theorem aK_X7_300 : Cond.constantLong RX7 300 (31) ∈ AW := in_t2 (List.mem_of_getElem? (i := 143) rfl) rfl
theorem aM_X7_302 : Cond.methodLink RX7 302 yX7_count ∈ AW := in_t2 (List.mem_of_getElem? (i := 144) rfl) rfl
theorem aI_X7_count : Cond.instanceMethod yX7_count ∈ AW := in_t2 (List.mem_of_getElem? (i := 145) rfl) rfl
theorem aS_X7_count : Cond.selects RX7 yX7_count yX7_count ∈ AW := in_t2 (List.mem_of_getElem? (i := 146) rfl) rfl
theorem aC_X7_count : Cond.code yX7_count cX7_count 2 (some .int) ∈ AW := in_t2 (List.mem_of_getElem? (i := 147) rfl) rfl
theorem aM_X7_198 : Cond.methodLink RX7 198 yX1_known ∈ AW := in_t2 (List.mem_of_getElem? (i := 148) rfl) rfl
theorem aM_X7_57 : Cond.methodLink RX7 57 yX5_size ∈ AW := in_t2 (List.mem_of_getElem? (i := 149) rfl) rfl
theorem aI_X5_size : Cond.instanceMethod yX5_size ∈ AW := in_t2 (List.mem_of_getElem? (i := 150) rfl) rfl
theorem aS_X5_size : Cond.selects RX5 yX5_size yX5_size ∈ AW := in_t2 (List.mem_of_getElem? (i := 151) rfl) rfl
theorem aC_X5_size : Cond.code yX5_size cX5_size 1 (some .int) ∈ AW := in_t2 (List.mem_of_getElem? (i := 152) rfl) rfl
theorem aM_X7_145 : Cond.methodLink RX7 145 yX2_size ∈ AW := in_t2 (List.mem_of_getElem? (i := 153) rfl) rfl
theorem aI_X2_size : Cond.instanceMethod yX2_size ∈ AW := in_t2 (List.mem_of_getElem? (i := 154) rfl) rfl
theorem aS_X2_size : Cond.selects RX2 yX2_size yX2_size ∈ AW := in_t2 (List.mem_of_getElem? (i := 155) rfl) rfl
theorem aC_X2_size : Cond.code yX2_size cX2_size 1 (some .int) ∈ AW := in_t2 (List.mem_of_getElem? (i := 156) rfl) rfl
theorem aM_X7_201 : Cond.methodLink RX7 201 yX3_boxCount ∈ AW := in_t2 (List.mem_of_getElem? (i := 157) rfl) rfl
theorem aI_X3_boxCount : Cond.instanceMethod yX3_boxCount ∈ AW := in_t2 (List.mem_of_getElem? (i := 158) rfl) rfl
theorem aS_X3_boxCount : Cond.selects RX3 yX3_boxCount yX3_boxCount ∈ AW := in_t2 (List.mem_of_getElem? (i := 159) rfl) rfl
theorem aC_X3_boxCount : Cond.code yX3_boxCount cX3_boxCount 1 (some .int) ∈ AW := in_t2 (List.mem_of_getElem? (i := 160) rfl) rfl
theorem aM_X3_53 : Cond.methodLink RX3 53 yX0_known ∈ AW := in_t2 (List.mem_of_getElem? (i := 161) rfl) rfl
theorem aI_X0_known : Cond.instanceMethod yX0_known ∈ AW := in_t2 (List.mem_of_getElem? (i := 162) rfl) rfl
theorem aS_X0_known : Cond.selects RX0 yX0_known yX0_known ∈ AW := in_t2 (List.mem_of_getElem? (i := 163) rfl) rfl
theorem aC_X0_known : Cond.code yX0_known cX0_known 1 (some .int) ∈ AW := in_t2 (List.mem_of_getElem? (i := 164) rfl) rfl
theorem aM_X7_166 : Cond.methodLink RX7 166 yX3_openCount ∈ AW := in_t2 (List.mem_of_getElem? (i := 165) rfl) rfl
theorem aI_X3_openCount : Cond.instanceMethod yX3_openCount ∈ AW := in_t2 (List.mem_of_getElem? (i := 166) rfl) rfl
theorem aS_X3_openCount : Cond.selects RX3 yX3_openCount yX3_openCount ∈ AW := in_t2 (List.mem_of_getElem? (i := 167) rfl) rfl
theorem aC_X3_openCount : Cond.code yX3_openCount cX3_openCount 1 (some .int) ∈ AW := in_t2 (List.mem_of_getElem? (i := 168) rfl) rfl
theorem aM_X3_57 : Cond.methodLink RX3 57 yX0_open ∈ AW := in_t2 (List.mem_of_getElem? (i := 169) rfl) rfl
theorem aI_X0_open : Cond.instanceMethod yX0_open ∈ AW := in_t2 (List.mem_of_getElem? (i := 170) rfl) rfl
theorem aS_X0_open : Cond.selects RX0 yX0_open yX0_open ∈ AW := in_t2 (List.mem_of_getElem? (i := 171) rfl) rfl
theorem aC_X0_open : Cond.code yX0_open cX0_open 1 (some .int) ∈ AW := in_t2 (List.mem_of_getElem? (i := 172) rfl) rfl
theorem aM_X7_157 : Cond.methodLink RX7 157 yX3_premiseCount ∈ AW := in_t2 (List.mem_of_getElem? (i := 173) rfl) rfl
theorem aI_X3_premiseCount : Cond.instanceMethod yX3_premiseCount ∈ AW := in_t2 (List.mem_of_getElem? (i := 174) rfl) rfl
theorem aS_X3_premiseCount : Cond.selects RX3 yX3_premiseCount yX3_premiseCount ∈ AW := in_t2 (List.mem_of_getElem? (i := 175) rfl) rfl
theorem aC_X3_premiseCount : Cond.code yX3_premiseCount cX3_premiseCount 3 (some .int) ∈ AW := in_t2 (List.mem_of_getElem? (i := 176) rfl) rfl
theorem aM_X7_204 : Cond.methodLink RX7 204 yX6_known ∈ AW := in_t2 (List.mem_of_getElem? (i := 177) rfl) rfl
theorem aI_X6_known : Cond.instanceMethod yX6_known ∈ AW := in_t2 (List.mem_of_getElem? (i := 178) rfl) rfl
theorem aS_X6_known : Cond.selects RX6 yX6_known yX6_known ∈ AW := in_t2 (List.mem_of_getElem? (i := 179) rfl) rfl
theorem aC_X6_known : Cond.code yX6_known cX6_known 1 (some .int) ∈ AW := in_t2 (List.mem_of_getElem? (i := 180) rfl) rfl
theorem aM_X7_205 : Cond.methodLink RX7 205 yX3_neededCount ∈ AW := in_t2 (List.mem_of_getElem? (i := 181) rfl) rfl
theorem aI_X3_neededCount : Cond.instanceMethod yX3_neededCount ∈ AW := in_t2 (List.mem_of_getElem? (i := 182) rfl) rfl
theorem aS_X3_neededCount : Cond.selects RX3 yX3_neededCount yX3_neededCount ∈ AW := in_t2 (List.mem_of_getElem? (i := 183) rfl) rfl
theorem aC_X3_neededCount : Cond.code yX3_neededCount cX3_neededCount 4 (some .int) ∈ AW := in_t2 (List.mem_of_getElem? (i := 184) rfl) rfl
theorem aM_X3_112 : Cond.methodLink RX3 112 yJ9_min_7cf53 ∈ AW := in_t2 (List.mem_of_getElem? (i := 185) rfl) rfl
theorem aM_X3_141 : Cond.methodLink RX3 141 yX3_markReferences ∈ AW := in_t2 (List.mem_of_getElem? (i := 186) rfl) rfl
theorem aI_X3_markReferences : Cond.instanceMethod yX3_markReferences ∈ AW := in_t2 (List.mem_of_getElem? (i := 188) rfl) rfl
theorem aC_X3_markReferences : Cond.code yX3_markReferences cX3_markReferences 3 none ∈ AW := in_t2 (List.mem_of_getElem? (i := 189) rfl) rfl
theorem aM_X3_144 : Cond.methodLink RX3 144 yX3_mark ∈ AW := in_t2 (List.mem_of_getElem? (i := 190) rfl) rfl
theorem aI_X3_mark : Cond.instanceMethod yX3_mark ∈ AW := in_t2 (List.mem_of_getElem? (i := 192) rfl) rfl
theorem aC_X3_mark : Cond.code yX3_mark cX3_mark 2 none ∈ AW := in_t2 (List.mem_of_getElem? (i := 193) rfl) rfl
theorem aM_X3_62 : Cond.methodLink RX3 62 yX0_first ∈ AW := in_t2 (List.mem_of_getElem? (i := 194) rfl) rfl
theorem aI_X0_first : Cond.instanceMethod yX0_first ∈ AW := in_t2 (List.mem_of_getElem? (i := 195) rfl) rfl
theorem aS_X0_first : Cond.selects RX0 yX0_first yX0_first ∈ AW := in_t2 (List.mem_of_getElem? (i := 196) rfl) rfl
theorem aC_X0_first : Cond.code yX0_first cX0_first 2 (some .int) ∈ AW := in_t2 (List.mem_of_getElem? (i := 197) rfl) rfl
theorem aM_X3_66 : Cond.methodLink RX3 66 yX0_last ∈ AW := in_t2 (List.mem_of_getElem? (i := 198) rfl) rfl
theorem aI_X0_last : Cond.instanceMethod yX0_last ∈ AW := in_t2 (List.mem_of_getElem? (i := 199) rfl) rfl
theorem aS_X0_last : Cond.selects RX0 yX0_last yX0_last ∈ AW := in_t2 (List.mem_of_getElem? (i := 200) rfl) rfl
theorem aC_X0_last : Cond.code yX0_last cX0_last 2 (some .int) ∈ AW := in_t2 (List.mem_of_getElem? (i := 201) rfl) rfl
theorem aL_X7_94 : Cond.classLink RX7 94 "java/lang/IndexOutOfBoundsException" ∈ AW := in_t2 (List.mem_of_getElem? (i := 202) rfl) rfl
theorem aM_X7_305 : Cond.methodLink RX7 305 yX7_withFormulas ∈ AW := in_t3 (List.mem_of_getElem? (i := 29) rfl) rfl
theorem aI_X7_withFormulas : Cond.instanceMethod yX7_withFormulas ∈ AW := in_t3 (List.mem_of_getElem? (i := 31) rfl) rfl
theorem aC_X7_withFormulas : Cond.code yX7_withFormulas cX7_withFormulas 6 (some .long) ∈ AW := in_t3 (List.mem_of_getElem? (i := 32) rfl) rfl
theorem aM_X7_111 : Cond.methodLink RX7 111 yX1_sort ∈ AW := in_t3 (List.mem_of_getElem? (i := 33) rfl) rfl
theorem aM_X7_115 : Cond.methodLink RX7 115 yX1_first ∈ AW := in_t3 (List.mem_of_getElem? (i := 34) rfl) rfl
theorem aI_X1_first : Cond.instanceMethod yX1_first ∈ AW := in_t3 (List.mem_of_getElem? (i := 35) rfl) rfl
theorem aS_X1_first : Cond.selects RX1 yX1_first yX1_first ∈ AW := in_t3 (List.mem_of_getElem? (i := 36) rfl) rfl
theorem aC_X1_first : Cond.code yX1_first cX1_first 2 (some .int) ∈ AW := in_t3 (List.mem_of_getElem? (i := 37) rfl) rfl
theorem aM_X7_118 : Cond.methodLink RX7 118 yX1_second ∈ AW := in_t3 (List.mem_of_getElem? (i := 38) rfl) rfl
theorem aI_X1_second : Cond.instanceMethod yX1_second ∈ AW := in_t3 (List.mem_of_getElem? (i := 39) rfl) rfl
theorem aS_X1_second : Cond.selects RX1 yX1_second yX1_second ∈ AW := in_t3 (List.mem_of_getElem? (i := 40) rfl) rfl
theorem aC_X1_second : Cond.code yX1_second cX1_second 2 (some .int) ∈ AW := in_t3 (List.mem_of_getElem? (i := 41) rfl) rfl
theorem aM_X7_309 : Cond.methodLink RX7 309 yX7_withProof ∈ AW := in_t3 (List.mem_of_getElem? (i := 42) rfl) rfl
theorem aI_X7_withProof : Cond.instanceMethod yX7_withProof ∈ AW := in_t3 (List.mem_of_getElem? (i := 44) rfl) rfl
theorem aC_X7_withProof : Cond.code yX7_withProof cX7_withProof 7 (some .long) ∈ AW := in_t3 (List.mem_of_getElem? (i := 45) rfl) rfl
theorem aM_X7_315 : Cond.methodLink RX7 315 yX7_line ∈ AW := in_t3 (List.mem_of_getElem? (i := 46) rfl) rfl
theorem aI_X7_line : Cond.instanceMethod yX7_line ∈ AW := in_t3 (List.mem_of_getElem? (i := 47) rfl) rfl
theorem aS_X7_line : Cond.selects RX7 yX7_line yX7_line ∈ AW := in_t3 (List.mem_of_getElem? (i := 48) rfl) rfl
theorem aC_X7_line : Cond.code yX7_line cX7_line 3 (some .int) ∈ AW := in_t3 (List.mem_of_getElem? (i := 49) rfl) rfl
theorem aM_X7_212 : Cond.methodLink RX7 212 yX3_formulaOf ∈ AW := in_t3 (List.mem_of_getElem? (i := 51) rfl) rfl
theorem aI_X3_formulaOf : Cond.instanceMethod yX3_formulaOf ∈ AW := in_t3 (List.mem_of_getElem? (i := 52) rfl) rfl
theorem aS_X3_formulaOf : Cond.selects RX3 yX3_formulaOf yX3_formulaOf ∈ AW := in_t3 (List.mem_of_getElem? (i := 53) rfl) rfl
theorem aC_X3_formulaOf : Cond.code yX3_formulaOf cX3_formulaOf 2 (some .int) ∈ AW := in_t3 (List.mem_of_getElem? (i := 54) rfl) rfl
theorem aM_X7_215 : Cond.methodLink RX7 215 yX3_ruleOf ∈ AW := in_t3 (List.mem_of_getElem? (i := 55) rfl) rfl
theorem aI_X3_ruleOf : Cond.instanceMethod yX3_ruleOf ∈ AW := in_t3 (List.mem_of_getElem? (i := 56) rfl) rfl
theorem aS_X3_ruleOf : Cond.selects RX3 yX3_ruleOf yX3_ruleOf ∈ AW := in_t3 (List.mem_of_getElem? (i := 57) rfl) rfl
theorem aC_X3_ruleOf : Cond.code yX3_ruleOf cX3_ruleOf 2 (some .int) ∈ AW := in_t3 (List.mem_of_getElem? (i := 58) rfl) rfl
theorem aM_X7_218 : Cond.methodLink RX7 218 yX3_boxOf ∈ AW := in_t3 (List.mem_of_getElem? (i := 59) rfl) rfl
theorem aI_X3_boxOf : Cond.instanceMethod yX3_boxOf ∈ AW := in_t3 (List.mem_of_getElem? (i := 60) rfl) rfl
theorem aS_X3_boxOf : Cond.selects RX3 yX3_boxOf yX3_boxOf ∈ AW := in_t3 (List.mem_of_getElem? (i := 61) rfl) rfl
theorem aC_X3_boxOf : Cond.code yX3_boxOf cX3_boxOf 2 (some .int) ∈ AW := in_t3 (List.mem_of_getElem? (i := 62) rfl) rfl
theorem aM_X7_221 : Cond.methodLink RX7 221 yX3_seesLine ∈ AW := in_t3 (List.mem_of_getElem? (i := 63) rfl) rfl
theorem aI_X3_seesLine : Cond.instanceMethod yX3_seesLine ∈ AW := in_t3 (List.mem_of_getElem? (i := 64) rfl) rfl
theorem aS_X3_seesLine : Cond.selects RX3 yX3_seesLine yX3_seesLine ∈ AW := in_t3 (List.mem_of_getElem? (i := 65) rfl) rfl
theorem aC_X3_seesLine : Cond.code yX3_seesLine cX3_seesLine 2 (some .boolean) ∈ AW := in_t3 (List.mem_of_getElem? (i := 66) rfl) rfl
theorem aM_X3_75 : Cond.methodLink RX3 75 yX0_isOpen ∈ AW := in_t3 (List.mem_of_getElem? (i := 67) rfl) rfl
theorem aI_X0_isOpen : Cond.instanceMethod yX0_isOpen ∈ AW := in_t3 (List.mem_of_getElem? (i := 68) rfl) rfl
theorem aS_X0_isOpen : Cond.selects RX0 yX0_isOpen yX0_isOpen ∈ AW := in_t3 (List.mem_of_getElem? (i := 69) rfl) rfl
theorem aC_X0_isOpen : Cond.code yX0_isOpen cX0_isOpen 2 (some .boolean) ∈ AW := in_t3 (List.mem_of_getElem? (i := 70) rfl) rfl
theorem aM_X7_224 : Cond.methodLink RX7 224 yX3_isNeeded ∈ AW := in_t3 (List.mem_of_getElem? (i := 71) rfl) rfl
theorem aI_X3_isNeeded : Cond.instanceMethod yX3_isNeeded ∈ AW := in_t3 (List.mem_of_getElem? (i := 72) rfl) rfl
theorem aS_X3_isNeeded : Cond.selects RX3 yX3_isNeeded yX3_isNeeded ∈ AW := in_t3 (List.mem_of_getElem? (i := 73) rfl) rfl
theorem aC_X3_isNeeded : Cond.code yX3_isNeeded cX3_isNeeded 2 (some .boolean) ∈ AW := in_t3 (List.mem_of_getElem? (i := 74) rfl) rfl
theorem aM_X3_138 : Cond.methodLink RX3 138 yX3_neededCount ∈ AW := in_t3 (List.mem_of_getElem? (i := 75) rfl) rfl
theorem aM_X7_227 : Cond.methodLink RX7 227 yX3_reference ∈ AW := in_t3 (List.mem_of_getElem? (i := 76) rfl) rfl
theorem aI_X3_reference : Cond.instanceMethod yX3_reference ∈ AW := in_t3 (List.mem_of_getElem? (i := 77) rfl) rfl
theorem aS_X3_reference : Cond.selects RX3 yX3_reference yX3_reference ∈ AW := in_t3 (List.mem_of_getElem? (i := 78) rfl) rfl
theorem aC_X3_reference : Cond.code yX3_reference cX3_reference 3 (some .int) ∈ AW := in_t3 (List.mem_of_getElem? (i := 79) rfl) rfl
theorem aM_X7_318 : Cond.methodLink RX7 318 yX7_box ∈ AW := in_t3 (List.mem_of_getElem? (i := 80) rfl) rfl
theorem aI_X7_box : Cond.instanceMethod yX7_box ∈ AW := in_t3 (List.mem_of_getElem? (i := 81) rfl) rfl
theorem aS_X7_box : Cond.selects RX7 yX7_box yX7_box ∈ AW := in_t3 (List.mem_of_getElem? (i := 82) rfl) rfl
theorem aC_X7_box : Cond.code yX7_box cX7_box 3 (some .int) ∈ AW := in_t3 (List.mem_of_getElem? (i := 83) rfl) rfl
theorem aM_X7_233 : Cond.methodLink RX7 233 yX3_firstLine ∈ AW := in_t3 (List.mem_of_getElem? (i := 85) rfl) rfl
theorem aI_X3_firstLine : Cond.instanceMethod yX3_firstLine ∈ AW := in_t3 (List.mem_of_getElem? (i := 86) rfl) rfl
theorem aS_X3_firstLine : Cond.selects RX3 yX3_firstLine yX3_firstLine ∈ AW := in_t3 (List.mem_of_getElem? (i := 87) rfl) rfl
theorem aC_X3_firstLine : Cond.code yX3_firstLine cX3_firstLine 2 (some .int) ∈ AW := in_t3 (List.mem_of_getElem? (i := 88) rfl) rfl
theorem aM_X7_236 : Cond.methodLink RX7 236 yX3_lastLine ∈ AW := in_t3 (List.mem_of_getElem? (i := 89) rfl) rfl
theorem aI_X3_lastLine : Cond.instanceMethod yX3_lastLine ∈ AW := in_t3 (List.mem_of_getElem? (i := 90) rfl) rfl
theorem aS_X3_lastLine : Cond.selects RX3 yX3_lastLine yX3_lastLine ∈ AW := in_t3 (List.mem_of_getElem? (i := 91) rfl) rfl
theorem aC_X3_lastLine : Cond.code yX3_lastLine cX3_lastLine 2 (some .int) ∈ AW := in_t3 (List.mem_of_getElem? (i := 92) rfl) rfl
theorem aM_X7_239 : Cond.methodLink RX7 239 yX3_outerBox ∈ AW := in_t3 (List.mem_of_getElem? (i := 93) rfl) rfl
theorem aI_X3_outerBox : Cond.instanceMethod yX3_outerBox ∈ AW := in_t3 (List.mem_of_getElem? (i := 94) rfl) rfl
theorem aS_X3_outerBox : Cond.selects RX3 yX3_outerBox yX3_outerBox ∈ AW := in_t3 (List.mem_of_getElem? (i := 95) rfl) rfl
theorem aC_X3_outerBox : Cond.code yX3_outerBox cX3_outerBox 2 (some .int) ∈ AW := in_t3 (List.mem_of_getElem? (i := 96) rfl) rfl
theorem aM_X3_69 : Cond.methodLink RX3 69 yX0_outer ∈ AW := in_t3 (List.mem_of_getElem? (i := 97) rfl) rfl
theorem aI_X0_outer : Cond.instanceMethod yX0_outer ∈ AW := in_t3 (List.mem_of_getElem? (i := 98) rfl) rfl
theorem aS_X0_outer : Cond.selects RX0 yX0_outer yX0_outer ∈ AW := in_t3 (List.mem_of_getElem? (i := 99) rfl) rfl
theorem aC_X0_outer : Cond.code yX0_outer cX0_outer 2 (some .int) ∈ AW := in_t3 (List.mem_of_getElem? (i := 100) rfl) rfl
theorem aM_X7_242 : Cond.methodLink RX7 242 yX3_seesBox ∈ AW := in_t3 (List.mem_of_getElem? (i := 101) rfl) rfl
theorem aI_X3_seesBox : Cond.instanceMethod yX3_seesBox ∈ AW := in_t3 (List.mem_of_getElem? (i := 102) rfl) rfl
theorem aS_X3_seesBox : Cond.selects RX3 yX3_seesBox yX3_seesBox ∈ AW := in_t3 (List.mem_of_getElem? (i := 103) rfl) rfl
theorem aC_X3_seesBox : Cond.code yX3_seesBox cX3_seesBox 2 (some .boolean) ∈ AW := in_t3 (List.mem_of_getElem? (i := 104) rfl) rfl
theorem aM_X3_79 : Cond.methodLink RX3 79 yX0_canBeReferredTo ∈ AW := in_t3 (List.mem_of_getElem? (i := 105) rfl) rfl
theorem aI_X0_canBeReferredTo : Cond.instanceMethod yX0_canBeReferredTo ∈ AW := in_t3 (List.mem_of_getElem? (i := 106) rfl) rfl
theorem aS_X0_canBeReferredTo : Cond.selects RX0 yX0_canBeReferredTo yX0_canBeReferredTo ∈ AW := in_t3 (List.mem_of_getElem? (i := 107) rfl) rfl
theorem aC_X0_canBeReferredTo : Cond.code yX0_canBeReferredTo cX0_canBeReferredTo 2 (some .boolean) ∈ AW := in_t3 (List.mem_of_getElem? (i := 108) rfl) rfl
theorem aM_X0_31 : Cond.methodLink RX0 31 yX0_isOpen ∈ AW := in_t3 (List.mem_of_getElem? (i := 109) rfl) rfl
theorem aM_X7_312 : Cond.methodLink RX7 312 yX7_withTheorems ∈ AW := in_t3 (List.mem_of_getElem? (i := 110) rfl) rfl
theorem aI_X7_withTheorems : Cond.instanceMethod yX7_withTheorems ∈ AW := in_t3 (List.mem_of_getElem? (i := 112) rfl) rfl
theorem aC_X7_withTheorems : Cond.code yX7_withTheorems cX7_withTheorems 7 (some .long) ∈ AW := in_t3 (List.mem_of_getElem? (i := 113) rfl) rfl
theorem aM_X7_321 : Cond.methodLink RX7 321 yX7_theorem ∈ AW := in_t3 (List.mem_of_getElem? (i := 114) rfl) rfl
theorem aI_X7_theorem : Cond.instanceMethod yX7_theorem ∈ AW := in_t3 (List.mem_of_getElem? (i := 115) rfl) rfl
theorem aS_X7_theorem : Cond.selects RX7 yX7_theorem yX7_theorem ∈ AW := in_t3 (List.mem_of_getElem? (i := 116) rfl) rfl
theorem aC_X7_theorem : Cond.code yX7_theorem cX7_theorem 3 (some .int) ∈ AW := in_t3 (List.mem_of_getElem? (i := 117) rfl) rfl
theorem aM_X7_262 : Cond.methodLink RX7 262 yX6_isKnown ∈ AW := in_t3 (List.mem_of_getElem? (i := 118) rfl) rfl
theorem aI_X6_isKnown : Cond.instanceMethod yX6_isKnown ∈ AW := in_t3 (List.mem_of_getElem? (i := 119) rfl) rfl
theorem aS_X6_isKnown : Cond.selects RX6 yX6_isKnown yX6_isKnown ∈ AW := in_t3 (List.mem_of_getElem? (i := 120) rfl) rfl
theorem aC_X6_isKnown : Cond.code yX6_isKnown cX6_isKnown 2 (some .boolean) ∈ AW := in_t3 (List.mem_of_getElem? (i := 121) rfl) rfl
theorem aM_X7_265 : Cond.methodLink RX7 265 yX6_conclusion ∈ AW := in_t3 (List.mem_of_getElem? (i := 123) rfl) rfl
theorem aI_X6_conclusion : Cond.instanceMethod yX6_conclusion ∈ AW := in_t3 (List.mem_of_getElem? (i := 124) rfl) rfl
theorem aS_X6_conclusion : Cond.selects RX6 yX6_conclusion yX6_conclusion ∈ AW := in_t3 (List.mem_of_getElem? (i := 125) rfl) rfl
theorem aC_X6_conclusion : Cond.code yX6_conclusion cX6_conclusion 2 (some .int) ∈ AW := in_t3 (List.mem_of_getElem? (i := 126) rfl) rfl
theorem aM_X7_268 : Cond.methodLink RX7 268 yX6_premises ∈ AW := in_t3 (List.mem_of_getElem? (i := 127) rfl) rfl
theorem aI_X6_premises : Cond.instanceMethod yX6_premises ∈ AW := in_t3 (List.mem_of_getElem? (i := 128) rfl) rfl
theorem aS_X6_premises : Cond.selects RX6 yX6_premises yX6_premises ∈ AW := in_t3 (List.mem_of_getElem? (i := 129) rfl) rfl
theorem aC_X6_premises : Cond.code yX6_premises cX6_premises 2 (some .int) ∈ AW := in_t3 (List.mem_of_getElem? (i := 130) rfl) rfl
theorem aM_X7_271 : Cond.methodLink RX7 271 yX6_firstPremise ∈ AW := in_t3 (List.mem_of_getElem? (i := 131) rfl) rfl
theorem aI_X6_firstPremise : Cond.instanceMethod yX6_firstPremise ∈ AW := in_t3 (List.mem_of_getElem? (i := 132) rfl) rfl
theorem aS_X6_firstPremise : Cond.selects RX6 yX6_firstPremise yX6_firstPremise ∈ AW := in_t3 (List.mem_of_getElem? (i := 133) rfl) rfl
theorem aC_X6_firstPremise : Cond.code yX6_firstPremise cX6_firstPremise 2 (some .int) ∈ AW := in_t3 (List.mem_of_getElem? (i := 134) rfl) rfl
theorem aM_X7_274 : Cond.methodLink RX7 274 yX6_secondPremise ∈ AW := in_t3 (List.mem_of_getElem? (i := 135) rfl) rfl
theorem aI_X6_secondPremise : Cond.instanceMethod yX6_secondPremise ∈ AW := in_t3 (List.mem_of_getElem? (i := 136) rfl) rfl
theorem aS_X6_secondPremise : Cond.selects RX6 yX6_secondPremise yX6_secondPremise ∈ AW := in_t3 (List.mem_of_getElem? (i := 137) rfl) rfl
theorem aC_X6_secondPremise : Cond.code yX6_secondPremise cX6_secondPremise 2 (some .int) ∈ AW := in_t3 (List.mem_of_getElem? (i := 138) rfl) rfl
theorem aM_X7_277 : Cond.methodLink RX7 277 yX6_lines ∈ AW := in_t3 (List.mem_of_getElem? (i := 139) rfl) rfl
theorem aI_X6_lines : Cond.instanceMethod yX6_lines ∈ AW := in_t3 (List.mem_of_getElem? (i := 140) rfl) rfl
theorem aS_X6_lines : Cond.selects RX6 yX6_lines yX6_lines ∈ AW := in_t3 (List.mem_of_getElem? (i := 141) rfl) rfl
theorem aC_X6_lines : Cond.code yX6_lines cX6_lines 2 (some .int) ∈ AW := in_t3 (List.mem_of_getElem? (i := 142) rfl) rfl
theorem aM_X7_280 : Cond.methodLink RX7 280 yX6_needed ∈ AW := in_t3 (List.mem_of_getElem? (i := 143) rfl) rfl
theorem aI_X6_needed : Cond.instanceMethod yX6_needed ∈ AW := in_t3 (List.mem_of_getElem? (i := 144) rfl) rfl
theorem aS_X6_needed : Cond.selects RX6 yX6_needed yX6_needed ∈ AW := in_t3 (List.mem_of_getElem? (i := 145) rfl) rfl
theorem aC_X6_needed : Cond.code yX6_needed cX6_needed 2 (some .int) ∈ AW := in_t3 (List.mem_of_getElem? (i := 146) rfl) rfl
theorem aM_X7_283 : Cond.methodLink RX7 283 yX6_uses ∈ AW := in_t3 (List.mem_of_getElem? (i := 147) rfl) rfl
theorem aI_X6_uses : Cond.instanceMethod yX6_uses ∈ AW := in_t3 (List.mem_of_getElem? (i := 148) rfl) rfl
theorem aS_X6_uses : Cond.selects RX6 yX6_uses yX6_uses ∈ AW := in_t3 (List.mem_of_getElem? (i := 149) rfl) rfl
theorem aC_X6_uses : Cond.code yX6_uses cX6_uses 2 (some .int) ∈ AW := in_t3 (List.mem_of_getElem? (i := 150) rfl) rfl
theorem aM_X7_148 : Cond.methodLink RX7 148 yX2_at ∈ AW := in_t3 (List.mem_of_getElem? (i := 151) rfl) rfl
theorem aI_X2_at : Cond.instanceMethod yX2_at ∈ AW := in_t3 (List.mem_of_getElem? (i := 152) rfl) rfl
theorem aS_X2_at : Cond.selects RX2 yX2_at yX2_at ∈ AW := in_t3 (List.mem_of_getElem? (i := 153) rfl) rfl
theorem aC_X2_at : Cond.code yX2_at cX2_at 2 (some .int) ∈ AW := in_t3 (List.mem_of_getElem? (i := 154) rfl) rfl
theorem aM_L_85 : Cond.methodLink RL 85 yL_feed ∈ AW := in_t3 (List.mem_of_getElem? (i := 155) rfl) rfl
theorem aT_L_feed : Cond.static yL_feed ∈ AW := in_t3 (List.mem_of_getElem? (i := 156) rfl) rfl
theorem aC_L_feed : Cond.codeWith yL_feed cL_feed 8 (some .int) [((0), (16), (19), (13))] ∈ AW := in_t3 (List.mem_of_getElem? (i := 157) rfl) rfl
theorem aL_L_13 : Cond.classLink RL 13 "java/lang/IllegalStateException" ∈ AW := in_t3 (List.mem_of_getElem? (i := 158) rfl) rfl
theorem aM_L_7 : Cond.methodLink RL 7 yX7_feed ∈ AW := in_t3 (List.mem_of_getElem? (i := 159) rfl) rfl
theorem aI_X7_feed : Cond.instanceMethod yX7_feed ∈ AW := in_t3 (List.mem_of_getElem? (i := 160) rfl) rfl
theorem aS_X7_feed : Cond.selects RX7 yX7_feed yX7_feed ∈ AW := in_t3 (List.mem_of_getElem? (i := 161) rfl) rfl
theorem aC_X7_feed : Cond.code yX7_feed cX7_feed 6 (some .int) ∈ AW := in_t3 (List.mem_of_getElem? (i := 162) rfl) rfl
theorem aL_X7_61 : Cond.classLink RX7 61 "java/lang/IllegalStateException" ∈ AW := in_t3 (List.mem_of_getElem? (i := 163) rfl) rfl
theorem aM_X7_68 : Cond.methodLink RX7 68 yX5_append ∈ AW := in_t3 (List.mem_of_getElem? (i := 179) rfl) rfl
theorem aI_X5_append : Cond.instanceMethod yX5_append ∈ AW := in_t3 (List.mem_of_getElem? (i := 180) rfl) rfl
theorem aS_X5_append : Cond.selects RX5 yX5_append yX5_append ∈ AW := in_t3 (List.mem_of_getElem? (i := 181) rfl) rfl
theorem aC_X5_append : Cond.code yX5_append cX5_append 3 none ∈ AW := in_t3 (List.mem_of_getElem? (i := 182) rfl) rfl
theorem aM_L_94 : Cond.methodLink RL 94 yL_trim ∈ AW := in_t3 (List.mem_of_getElem? (i := 183) rfl) rfl
theorem aT_L_trim : Cond.static yL_trim ∈ AW := in_t3 (List.mem_of_getElem? (i := 184) rfl) rfl
theorem aC_L_trim : Cond.codeWith yL_trim cL_trim 4 (some .int) [((0), (9), (12), (19))] ∈ AW := in_t3 (List.mem_of_getElem? (i := 185) rfl) rfl
theorem aL_L_19 : Cond.classLink RL 19 "java/lang/IllegalArgumentException" ∈ AW := in_t3 (List.mem_of_getElem? (i := 186) rfl) rfl
theorem aM_L_15 : Cond.methodLink RL 15 yX7_trim ∈ AW := in_t3 (List.mem_of_getElem? (i := 187) rfl) rfl
theorem aI_X7_trim : Cond.instanceMethod yX7_trim ∈ AW := in_t3 (List.mem_of_getElem? (i := 188) rfl) rfl
theorem aS_X7_trim : Cond.selects RX7 yX7_trim yX7_trim ∈ AW := in_t3 (List.mem_of_getElem? (i := 189) rfl) rfl
theorem aC_X7_trim : Cond.code yX7_trim cX7_trim 2 (some .int) ∈ AW := in_t3 (List.mem_of_getElem? (i := 190) rfl) rfl
theorem aL_X7_72 : Cond.classLink RX7 72 "java/lang/IllegalArgumentException" ∈ AW := in_t3 (List.mem_of_getElem? (i := 191) rfl) rfl
theorem aM_X7_77 : Cond.methodLink RX7 77 yX5_shorten ∈ AW := in_t3 (List.mem_of_getElem? (i := 207) rfl) rfl
theorem aI_X5_shorten : Cond.instanceMethod yX5_shorten ∈ AW := in_t3 (List.mem_of_getElem? (i := 208) rfl) rfl
theorem aS_X5_shorten : Cond.selects RX5 yX5_shorten yX5_shorten ∈ AW := in_t3 (List.mem_of_getElem? (i := 209) rfl) rfl
theorem aC_X5_shorten : Cond.code yX5_shorten cX5_shorten 2 none ∈ AW := in_t3 (List.mem_of_getElem? (i := 210) rfl) rfl
theorem aM_L_106 : Cond.methodLink RL 106 yL_make ∈ AW := in_t3 (List.mem_of_getElem? (i := 211) rfl) rfl
theorem aT_L_make : Cond.static yL_make ∈ AW := in_t3 (List.mem_of_getElem? (i := 212) rfl) rfl
theorem aC_L_make : Cond.codeWith yL_make cL_make 6 (some .int) [((0), (12), (15), (19)), ((0), (12), (19), (25)), ((0), (12), (23), (13))] ∈ AW := in_t3 (List.mem_of_getElem? (i := 213) rfl) rfl
theorem aL_L_25 : Cond.classLink RL 25 "java/lang/IndexOutOfBoundsException" ∈ AW := in_t3 (List.mem_of_getElem? (i := 214) rfl) rfl
theorem aM_L_21 : Cond.methodLink RL 21 yX7_make ∈ AW := in_t3 (List.mem_of_getElem? (i := 215) rfl) rfl
theorem aI_X7_make : Cond.instanceMethod yX7_make ∈ AW := in_t3 (List.mem_of_getElem? (i := 216) rfl) rfl
theorem aS_X7_make : Cond.selects RX7 yX7_make yX7_make ∈ AW := in_t3 (List.mem_of_getElem? (i := 217) rfl) rfl
theorem aC_X7_make : Cond.code yX7_make cX7_make 5 (some .int) ∈ AW := in_t3 (List.mem_of_getElem? (i := 218) rfl) rfl
theorem aM_X7_90 : Cond.methodLink RX7 90 yX1_hasParts ∈ AW := in_t3 (List.mem_of_getElem? (i := 221) rfl) rfl
theorem aM_X7_99 : Cond.methodLink RX7 99 yX1_number ∈ AW := in_t3 (List.mem_of_getElem? (i := 223) rfl) rfl
theorem aM_L_110 : Cond.methodLink RL 110 yL_formula ∈ AW := in_t3 (List.mem_of_getElem? (i := 225) rfl) rfl
theorem aT_L_formula : Cond.static yL_formula ∈ AW := in_t3 (List.mem_of_getElem? (i := 226) rfl) rfl
theorem aC_L_formula : Cond.codeWith yL_formula cL_formula 5 (some .int) [((0), (10), (13), (25))] ∈ AW := in_t3 (List.mem_of_getElem? (i := 227) rfl) rfl
theorem aM_L_27 : Cond.methodLink RL 27 yX7_formula ∈ AW := in_t3 (List.mem_of_getElem? (i := 228) rfl) rfl
theorem aI_X7_formula : Cond.instanceMethod yX7_formula ∈ AW := in_t3 (List.mem_of_getElem? (i := 229) rfl) rfl
theorem aS_X7_formula : Cond.selects RX7 yX7_formula yX7_formula ∈ AW := in_t3 (List.mem_of_getElem? (i := 230) rfl) rfl
theorem aC_X7_formula : Cond.code yX7_formula cX7_formula 3 (some .int) ∈ AW := in_t3 (List.mem_of_getElem? (i := 231) rfl) rfl
theorem aM_X7_105 : Cond.methodLink RX7 105 yX1_isKnown ∈ AW := in_t3 (List.mem_of_getElem? (i := 232) rfl) rfl
theorem aM_X7_121 : Cond.methodLink RX7 121 yX1_letters ∈ AW := in_t3 (List.mem_of_getElem? (i := 234) rfl) rfl
theorem aM_X7_124 : Cond.methodLink RX7 124 yX1_trueSets ∈ AW := in_t3 (List.mem_of_getElem? (i := 235) rfl) rfl
theorem aI_X1_trueSets : Cond.instanceMethod yX1_trueSets ∈ AW := in_t3 (List.mem_of_getElem? (i := 236) rfl) rfl
theorem aS_X1_trueSets : Cond.selects RX1 yX1_trueSets yX1_trueSets ∈ AW := in_t3 (List.mem_of_getElem? (i := 237) rfl) rfl
theorem aC_X1_trueSets : Cond.code yX1_trueSets cX1_trueSets 4 (some .int) ∈ AW := in_t3 (List.mem_of_getElem? (i := 238) rfl) rfl
theorem aM_X1_42 : Cond.methodLink RX1 42 yJ13_bitCount_95d88 ∈ AW := in_t3 (List.mem_of_getElem? (i := 239) rfl) rfl
theorem aT_J13_bitCount_95d88 : Cond.static yJ13_bitCount_95d88 ∈ AW := in_t4 (List.mem_of_getElem? (i := 0) rfl) rfl
theorem aC_J13_bitCount_95d88 : Cond.code yJ13_bitCount_95d88 cJ13_bitCount_95d88 2 (some .int) ∈ AW := in_t4 (List.mem_of_getElem? (i := 1) rfl) rfl
theorem aK_J13_314 : Cond.constantLong RJ13 314 (6148914691236517205) ∈ AW := in_t4 (List.mem_of_getElem? (i := 2) rfl) rfl
theorem aK_J13_316 : Cond.constantLong RJ13 316 (3689348814741910323) ∈ AW := in_t4 (List.mem_of_getElem? (i := 3) rfl) rfl
theorem aK_J13_318 : Cond.constantLong RJ13 318 (1085102592571150095) ∈ AW := in_t4 (List.mem_of_getElem? (i := 4) rfl) rfl
theorem aM_X7_127 : Cond.methodLink RX7 127 yX1_size ∈ AW := in_t4 (List.mem_of_getElem? (i := 5) rfl) rfl
theorem aM_L_114 : Cond.methodLink RL 114 yL_isTrue ∈ AW := in_t4 (List.mem_of_getElem? (i := 6) rfl) rfl
theorem aT_L_isTrue : Cond.static yL_isTrue ∈ AW := in_t4 (List.mem_of_getElem? (i := 7) rfl) rfl
theorem aC_L_isTrue : Cond.codeWith yL_isTrue cL_isTrue 5 (some .int) [((0), (17), (20), (25)), ((0), (17), (24), (19))] ∈ AW := in_t4 (List.mem_of_getElem? (i := 8) rfl) rfl
theorem aM_L_31 : Cond.methodLink RL 31 yX7_isTrue ∈ AW := in_t4 (List.mem_of_getElem? (i := 9) rfl) rfl
theorem aI_X7_isTrue : Cond.instanceMethod yX7_isTrue ∈ AW := in_t4 (List.mem_of_getElem? (i := 10) rfl) rfl
theorem aS_X7_isTrue : Cond.selects RX7 yX7_isTrue yX7_isTrue ∈ AW := in_t4 (List.mem_of_getElem? (i := 11) rfl) rfl
theorem aC_X7_isTrue : Cond.code yX7_isTrue cX7_isTrue 3 (some .boolean) ∈ AW := in_t4 (List.mem_of_getElem? (i := 12) rfl) rfl
theorem aM_X7_133 : Cond.methodLink RX7 133 yX1_truth ∈ AW := in_t4 (List.mem_of_getElem? (i := 15) rfl) rfl
theorem aM_L_117 : Cond.methodLink RL 117 yL_write ∈ AW := in_t4 (List.mem_of_getElem? (i := 16) rfl) rfl
theorem aT_L_write : Cond.static yL_write ∈ AW := in_t4 (List.mem_of_getElem? (i := 17) rfl) rfl
theorem aC_L_write : Cond.codeWith yL_write cL_write 4 (some .int) [((0), (9), (12), (25)), ((0), (9), (15), (13))] ∈ AW := in_t4 (List.mem_of_getElem? (i := 18) rfl) rfl
theorem aM_L_35 : Cond.methodLink RL 35 yX7_write ∈ AW := in_t4 (List.mem_of_getElem? (i := 19) rfl) rfl
theorem aI_X7_write : Cond.instanceMethod yX7_write ∈ AW := in_t4 (List.mem_of_getElem? (i := 20) rfl) rfl
theorem aS_X7_write : Cond.selects RX7 yX7_write yX7_write ∈ AW := in_t4 (List.mem_of_getElem? (i := 21) rfl) rfl
theorem aC_X7_write : Cond.code yX7_write cX7_write 2 (some .int) ∈ AW := in_t4 (List.mem_of_getElem? (i := 22) rfl) rfl
theorem aM_X7_137 : Cond.methodLink RX7 137 yX1_width ∈ AW := in_t4 (List.mem_of_getElem? (i := 23) rfl) rfl
theorem aM_X7_142 : Cond.methodLink RX7 142 yX2_put ∈ AW := in_t4 (List.mem_of_getElem? (i := 25) rfl) rfl
theorem aI_X2_put : Cond.instanceMethod yX2_put ∈ AW := in_t4 (List.mem_of_getElem? (i := 26) rfl) rfl
theorem aS_X2_put : Cond.selects RX2 yX2_put yX2_put ∈ AW := in_t4 (List.mem_of_getElem? (i := 27) rfl) rfl
theorem aC_X2_put : Cond.code yX2_put cX2_put 3 none ∈ AW := in_t4 (List.mem_of_getElem? (i := 28) rfl) rfl
theorem aM_X2_30 : Cond.methodLink RX2 30 yX1_width ∈ AW := in_t4 (List.mem_of_getElem? (i := 29) rfl) rfl
theorem aM_X2_36 : Cond.methodLink RX2 36 yJ9_min_7cf53 ∈ AW := in_t4 (List.mem_of_getElem? (i := 30) rfl) rfl
theorem aM_X2_45 : Cond.methodLink RX2 45 yX2_addWaiting ∈ AW := in_t4 (List.mem_of_getElem? (i := 31) rfl) rfl
theorem aI_X2_addWaiting : Cond.instanceMethod yX2_addWaiting ∈ AW := in_t4 (List.mem_of_getElem? (i := 33) rfl) rfl
theorem aC_X2_addWaiting : Cond.code yX2_addWaiting cX2_addWaiting 3 none ∈ AW := in_t4 (List.mem_of_getElem? (i := 34) rfl) rfl
theorem aM_X2_49 : Cond.methodLink RX2 49 yX2_putOne ∈ AW := in_t4 (List.mem_of_getElem? (i := 35) rfl) rfl
theorem aI_X2_putOne : Cond.instanceMethod yX2_putOne ∈ AW := in_t4 (List.mem_of_getElem? (i := 37) rfl) rfl
theorem aC_X2_putOne : Cond.code yX2_putOne cX2_putOne 5 none ∈ AW := in_t4 (List.mem_of_getElem? (i := 38) rfl) rfl
theorem aM_X2_52 : Cond.methodLink RX2 52 yX1_sort ∈ AW := in_t4 (List.mem_of_getElem? (i := 39) rfl) rfl
theorem aM_X2_55 : Cond.methodLink RX2 55 yX1_first ∈ AW := in_t4 (List.mem_of_getElem? (i := 40) rfl) rfl
theorem aM_X2_58 : Cond.methodLink RX2 58 yX2_set ∈ AW := in_t4 (List.mem_of_getElem? (i := 41) rfl) rfl
theorem aI_X2_set : Cond.instanceMethod yX2_set ∈ AW := in_t4 (List.mem_of_getElem? (i := 43) rfl) rfl
theorem aC_X2_set : Cond.code yX2_set cX2_set 3 none ∈ AW := in_t4 (List.mem_of_getElem? (i := 44) rfl) rfl
theorem aM_X2_61 : Cond.methodLink RX2 61 yX1_left ∈ AW := in_t4 (List.mem_of_getElem? (i := 45) rfl) rfl
theorem aI_X1_left : Cond.instanceMethod yX1_left ∈ AW := in_t4 (List.mem_of_getElem? (i := 46) rfl) rfl
theorem aS_X1_left : Cond.selects RX1 yX1_left yX1_left ∈ AW := in_t4 (List.mem_of_getElem? (i := 47) rfl) rfl
theorem aC_X1_left : Cond.code yX1_left cX1_left 2 (some .int) ∈ AW := in_t4 (List.mem_of_getElem? (i := 48) rfl) rfl
theorem aM_X2_64 : Cond.methodLink RX2 64 yX2_putPart ∈ AW := in_t4 (List.mem_of_getElem? (i := 49) rfl) rfl
theorem aI_X2_putPart : Cond.instanceMethod yX2_putPart ∈ AW := in_t4 (List.mem_of_getElem? (i := 51) rfl) rfl
theorem aC_X2_putPart : Cond.code yX2_putPart cX2_putPart 6 (some .int) ∈ AW := in_t4 (List.mem_of_getElem? (i := 52) rfl) rfl
theorem aM_X2_71 : Cond.methodLink RX2 71 yX1_needsBrackets ∈ AW := in_t4 (List.mem_of_getElem? (i := 53) rfl) rfl
theorem aM_X2_68 : Cond.methodLink RX2 68 yX1_second ∈ AW := in_t4 (List.mem_of_getElem? (i := 54) rfl) rfl
theorem aM_L_120 : Cond.methodLink RL 120 yL_byteAt ∈ AW := in_t4 (List.mem_of_getElem? (i := 55) rfl) rfl
theorem aT_L_byteAt : Cond.static yL_byteAt ∈ AW := in_t4 (List.mem_of_getElem? (i := 56) rfl) rfl
theorem aC_L_byteAt : Cond.codeWith yL_byteAt cL_byteAt 4 (some .int) [((0), (9), (12), (25))] ∈ AW := in_t4 (List.mem_of_getElem? (i := 57) rfl) rfl
theorem aM_L_38 : Cond.methodLink RL 38 yX7_byteAt ∈ AW := in_t4 (List.mem_of_getElem? (i := 58) rfl) rfl
theorem aI_X7_byteAt : Cond.instanceMethod yX7_byteAt ∈ AW := in_t4 (List.mem_of_getElem? (i := 59) rfl) rfl
theorem aS_X7_byteAt : Cond.selects RX7 yX7_byteAt yX7_byteAt ∈ AW := in_t4 (List.mem_of_getElem? (i := 60) rfl) rfl
theorem aC_X7_byteAt : Cond.code yX7_byteAt cX7_byteAt 2 (some .int) ∈ AW := in_t4 (List.mem_of_getElem? (i := 61) rfl) rfl
theorem aM_L_127 : Cond.methodLink RL 127 yL_premise ∈ AW := in_t4 (List.mem_of_getElem? (i := 63) rfl) rfl
theorem aT_L_premise : Cond.static yL_premise ∈ AW := in_t4 (List.mem_of_getElem? (i := 64) rfl) rfl
theorem aC_L_premise : Cond.codeWith yL_premise cL_premise 4 (some .int) [((0), (9), (12), (25)), ((0), (9), (15), (13))] ∈ AW := in_t4 (List.mem_of_getElem? (i := 65) rfl) rfl
theorem aM_L_41 : Cond.methodLink RL 41 yX7_premise ∈ AW := in_t4 (List.mem_of_getElem? (i := 66) rfl) rfl
theorem aI_X7_premise : Cond.instanceMethod yX7_premise ∈ AW := in_t4 (List.mem_of_getElem? (i := 67) rfl) rfl
theorem aS_X7_premise : Cond.selects RX7 yX7_premise yX7_premise ∈ AW := in_t4 (List.mem_of_getElem? (i := 68) rfl) rfl
theorem aC_X7_premise : Cond.code yX7_premise cX7_premise 3 (some .int) ∈ AW := in_t4 (List.mem_of_getElem? (i := 69) rfl) rfl
theorem aM_X7_162 : Cond.methodLink RX7 162 yX3_add ∈ AW := in_t4 (List.mem_of_getElem? (i := 71) rfl) rfl
theorem aI_X3_add : Cond.instanceMethod yX3_add ∈ AW := in_t4 (List.mem_of_getElem? (i := 72) rfl) rfl
theorem aS_X3_add : Cond.selects RX3 yX3_add yX3_add ∈ AW := in_t4 (List.mem_of_getElem? (i := 73) rfl) rfl
theorem aC_X3_add : Cond.code yX3_add cX3_add 7 (some .int) ∈ AW := in_t4 (List.mem_of_getElem? (i := 74) rfl) rfl
theorem aM_X3_88 : Cond.methodLink RX3 88 yX3_kind ∈ AW := in_t4 (List.mem_of_getElem? (i := 75) rfl) rfl
theorem aI_X3_kind : Cond.instanceMethod yX3_kind ∈ AW := in_t4 (List.mem_of_getElem? (i := 76) rfl) rfl
theorem aS_X3_kind : Cond.selects RX3 yX3_kind yX3_kind ∈ AW := in_t4 (List.mem_of_getElem? (i := 77) rfl) rfl
theorem aC_X3_kind : Cond.code yX3_kind cX3_kind 5 (some .int) ∈ AW := in_t4 (List.mem_of_getElem? (i := 78) rfl) rfl
theorem aM_X3_130 : Cond.methodLink RX3 130 yX6_premises ∈ AW := in_t4 (List.mem_of_getElem? (i := 79) rfl) rfl
theorem aF_X3_135 : Cond.fieldLink RX3 135 "ProofDesk$Rules" "KINDS" "[I" ∈ AW := in_t4 (List.mem_of_getElem? (i := 80) rfl) rfl
theorem aM_X3_92 : Cond.methodLink RX3 92 yX3_refer ∈ AW := in_t4 (List.mem_of_getElem? (i := 82) rfl) rfl
theorem aI_X3_refer : Cond.instanceMethod yX3_refer ∈ AW := in_t4 (List.mem_of_getElem? (i := 84) rfl) rfl
theorem aC_X3_refer : Cond.code yX3_refer cX3_refer 4 none ∈ AW := in_t4 (List.mem_of_getElem? (i := 85) rfl) rfl
theorem aM_X3_96 : Cond.methodLink RX3 96 yX0_innermost ∈ AW := in_t4 (List.mem_of_getElem? (i := 86) rfl) rfl
theorem aI_X0_innermost : Cond.instanceMethod yX0_innermost ∈ AW := in_t4 (List.mem_of_getElem? (i := 87) rfl) rfl
theorem aS_X0_innermost : Cond.selects RX0 yX0_innermost yX0_innermost ∈ AW := in_t4 (List.mem_of_getElem? (i := 88) rfl) rfl
theorem aC_X0_innermost : Cond.code yX0_innermost cX0_innermost 1 (some .int) ∈ AW := in_t4 (List.mem_of_getElem? (i := 89) rfl) rfl
theorem aM_X3_99 : Cond.methodLink RX3 99 yX3_noteDeed ∈ AW := in_t4 (List.mem_of_getElem? (i := 90) rfl) rfl
theorem aI_X3_noteDeed : Cond.instanceMethod yX3_noteDeed ∈ AW := in_t4 (List.mem_of_getElem? (i := 92) rfl) rfl
theorem aC_X3_noteDeed : Cond.code yX3_noteDeed cX3_noteDeed 2 none ∈ AW := in_t4 (List.mem_of_getElem? (i := 93) rfl) rfl
theorem aM_L_130 : Cond.methodLink RL 130 yL_assume ∈ AW := in_t4 (List.mem_of_getElem? (i := 94) rfl) rfl
theorem aT_L_assume : Cond.static yL_assume ∈ AW := in_t4 (List.mem_of_getElem? (i := 95) rfl) rfl
theorem aC_L_assume : Cond.codeWith yL_assume cL_assume 4 (some .int) [((0), (9), (12), (25)), ((0), (9), (15), (13))] ∈ AW := in_t4 (List.mem_of_getElem? (i := 96) rfl) rfl
theorem aM_L_44 : Cond.methodLink RL 44 yX7_assume ∈ AW := in_t4 (List.mem_of_getElem? (i := 97) rfl) rfl
theorem aI_X7_assume : Cond.instanceMethod yX7_assume ∈ AW := in_t4 (List.mem_of_getElem? (i := 98) rfl) rfl
theorem aS_X7_assume : Cond.selects RX7 yX7_assume yX7_assume ∈ AW := in_t4 (List.mem_of_getElem? (i := 99) rfl) rfl
theorem aC_X7_assume : Cond.code yX7_assume cX7_assume 2 (some .int) ∈ AW := in_t4 (List.mem_of_getElem? (i := 100) rfl) rfl
theorem aM_X7_171 : Cond.methodLink RX7 171 yX3_openBox ∈ AW := in_t4 (List.mem_of_getElem? (i := 102) rfl) rfl
theorem aI_X3_openBox : Cond.instanceMethod yX3_openBox ∈ AW := in_t4 (List.mem_of_getElem? (i := 103) rfl) rfl
theorem aS_X3_openBox : Cond.selects RX3 yX3_openBox yX3_openBox ∈ AW := in_t4 (List.mem_of_getElem? (i := 104) rfl) rfl
theorem aC_X3_openBox : Cond.code yX3_openBox cX3_openBox 1 none ∈ AW := in_t4 (List.mem_of_getElem? (i := 105) rfl) rfl
theorem aM_X3_103 : Cond.methodLink RX3 103 yX0_addAt ∈ AW := in_t4 (List.mem_of_getElem? (i := 106) rfl) rfl
theorem aI_X0_addAt : Cond.instanceMethod yX0_addAt ∈ AW := in_t4 (List.mem_of_getElem? (i := 107) rfl) rfl
theorem aS_X0_addAt : Cond.selects RX0 yX0_addAt yX0_addAt ∈ AW := in_t4 (List.mem_of_getElem? (i := 108) rfl) rfl
theorem aC_X0_addAt : Cond.code yX0_addAt cX0_addAt 2 none ∈ AW := in_t4 (List.mem_of_getElem? (i := 109) rfl) rfl
theorem aM_L_133 : Cond.methodLink RL 133 yL_close ∈ AW := in_t4 (List.mem_of_getElem? (i := 110) rfl) rfl
theorem aT_L_close : Cond.static yL_close ∈ AW := in_t4 (List.mem_of_getElem? (i := 111) rfl) rfl
theorem aC_L_close : Cond.codeWith yL_close cL_close 3 (some .int) [((0), (8), (11), (13))] ∈ AW := in_t4 (List.mem_of_getElem? (i := 112) rfl) rfl
theorem aM_L_47 : Cond.methodLink RL 47 yX7_close ∈ AW := in_t4 (List.mem_of_getElem? (i := 113) rfl) rfl
theorem aI_X7_close : Cond.instanceMethod yX7_close ∈ AW := in_t4 (List.mem_of_getElem? (i := 114) rfl) rfl
theorem aS_X7_close : Cond.selects RX7 yX7_close yX7_close ∈ AW := in_t4 (List.mem_of_getElem? (i := 115) rfl) rfl
theorem aC_X7_close : Cond.code yX7_close cX7_close 1 (some .int) ∈ AW := in_t4 (List.mem_of_getElem? (i := 116) rfl) rfl
theorem aM_X7_176 : Cond.methodLink RX7 176 yX3_shutBox ∈ AW := in_t4 (List.mem_of_getElem? (i := 118) rfl) rfl
theorem aI_X3_shutBox : Cond.instanceMethod yX3_shutBox ∈ AW := in_t4 (List.mem_of_getElem? (i := 119) rfl) rfl
theorem aS_X3_shutBox : Cond.selects RX3 yX3_shutBox yX3_shutBox ∈ AW := in_t4 (List.mem_of_getElem? (i := 120) rfl) rfl
theorem aC_X3_shutBox : Cond.code yX3_shutBox cX3_shutBox 2 (some .int) ∈ AW := in_t4 (List.mem_of_getElem? (i := 121) rfl) rfl
theorem aM_X3_106 : Cond.methodLink RX3 106 yX3_latestLineOf ∈ AW := in_t4 (List.mem_of_getElem? (i := 122) rfl) rfl
theorem aI_X3_latestLineOf : Cond.instanceMethod yX3_latestLineOf ∈ AW := in_t4 (List.mem_of_getElem? (i := 124) rfl) rfl
theorem aC_X3_latestLineOf : Cond.code yX3_latestLineOf cX3_latestLineOf 3 (some .int) ∈ AW := in_t4 (List.mem_of_getElem? (i := 125) rfl) rfl
theorem aM_X3_109 : Cond.methodLink RX3 109 yX0_shutAt ∈ AW := in_t4 (List.mem_of_getElem? (i := 126) rfl) rfl
theorem aI_X0_shutAt : Cond.instanceMethod yX0_shutAt ∈ AW := in_t4 (List.mem_of_getElem? (i := 127) rfl) rfl
theorem aS_X0_shutAt : Cond.selects RX0 yX0_shutAt yX0_shutAt ∈ AW := in_t4 (List.mem_of_getElem? (i := 128) rfl) rfl
theorem aC_X0_shutAt : Cond.code yX0_shutAt cX0_shutAt 3 none ∈ AW := in_t4 (List.mem_of_getElem? (i := 129) rfl) rfl
theorem aM_L_137 : Cond.methodLink RL 137 yL_step ∈ AW := in_t4 (List.mem_of_getElem? (i := 130) rfl) rfl
theorem aT_L_step : Cond.static yL_step ∈ AW := in_t4 (List.mem_of_getElem? (i := 131) rfl) rfl
theorem aC_L_step : Cond.codeWith yL_step cL_step 8 (some .int) [((0), (16), (19), (19)), ((0), (16), (23), (25)), ((0), (16), (27), (13))] ∈ AW := in_t4 (List.mem_of_getElem? (i := 132) rfl) rfl
theorem aM_L_51 : Cond.methodLink RL 51 yX7_step ∈ AW := in_t4 (List.mem_of_getElem? (i := 133) rfl) rfl
theorem aI_X7_step : Cond.instanceMethod yX7_step ∈ AW := in_t4 (List.mem_of_getElem? (i := 134) rfl) rfl
theorem aS_X7_step : Cond.selects RX7 yX7_step yX7_step ∈ AW := in_t4 (List.mem_of_getElem? (i := 135) rfl) rfl
theorem aC_X7_step : Cond.code yX7_step cX7_step 7 (some .int) ∈ AW := in_t4 (List.mem_of_getElem? (i := 136) rfl) rfl
theorem aM_X7_183 : Cond.methodLink RX7 183 yX4_refusal ∈ AW := in_t4 (List.mem_of_getElem? (i := 139) rfl) rfl
theorem aI_X4_refusal : Cond.instanceMethod yX4_refusal ∈ AW := in_t4 (List.mem_of_getElem? (i := 140) rfl) rfl
theorem aS_X4_refusal : Cond.selects RX4 yX4_refusal yX4_refusal ∈ AW := in_t4 (List.mem_of_getElem? (i := 141) rfl) rfl
theorem aC_X4_refusal : Cond.code yX4_refusal cX4_refusal 7 (some .int) ∈ AW := in_t4 (List.mem_of_getElem? (i := 142) rfl) rfl
theorem aM_X4_27 : Cond.methodLink RX4 27 yX3_kind ∈ AW := in_t4 (List.mem_of_getElem? (i := 143) rfl) rfl
theorem aM_X4_33 : Cond.methodLink RX4 33 yX4_reaches ∈ AW := in_t4 (List.mem_of_getElem? (i := 144) rfl) rfl
theorem aI_X4_reaches : Cond.instanceMethod yX4_reaches ∈ AW := in_t4 (List.mem_of_getElem? (i := 146) rfl) rfl
theorem aC_X4_reaches : Cond.code yX4_reaches cX4_reaches 3 (some .boolean) ∈ AW := in_t4 (List.mem_of_getElem? (i := 147) rfl) rfl
theorem aM_X4_54 : Cond.methodLink RX4 54 yX3_seesLine ∈ AW := in_t4 (List.mem_of_getElem? (i := 148) rfl) rfl
theorem aM_X4_58 : Cond.methodLink RX4 58 yX3_seesBox ∈ AW := in_t4 (List.mem_of_getElem? (i := 149) rfl) rfl
theorem aM_X4_61 : Cond.methodLink RX4 61 yX6_isKnown ∈ AW := in_t4 (List.mem_of_getElem? (i := 150) rfl) rfl
theorem aM_X4_37 : Cond.methodLink RX4 37 yX4_hasForm ∈ AW := in_t4 (List.mem_of_getElem? (i := 151) rfl) rfl
theorem aI_X4_hasForm : Cond.instanceMethod yX4_hasForm ∈ AW := in_t4 (List.mem_of_getElem? (i := 153) rfl) rfl
theorem aC_X4_hasForm : Cond.code yX4_hasForm cX4_hasForm 5 (some .boolean) ∈ AW := in_t4 (List.mem_of_getElem? (i := 154) rfl) rfl
theorem aM_X4_66 : Cond.methodLink RX4 66 yX3_formulaOf ∈ AW := in_t4 (List.mem_of_getElem? (i := 155) rfl) rfl
theorem aM_X4_70 : Cond.methodLink RX4 70 yX1_sort ∈ AW := in_t4 (List.mem_of_getElem? (i := 156) rfl) rfl
theorem aM_X4_75 : Cond.methodLink RX4 75 yX3_endOf ∈ AW := in_t4 (List.mem_of_getElem? (i := 157) rfl) rfl
theorem aI_X3_endOf : Cond.instanceMethod yX3_endOf ∈ AW := in_t4 (List.mem_of_getElem? (i := 158) rfl) rfl
theorem aS_X3_endOf : Cond.selects RX3 yX3_endOf yX3_endOf ∈ AW := in_t4 (List.mem_of_getElem? (i := 159) rfl) rfl
theorem aC_X3_endOf : Cond.code yX3_endOf cX3_endOf 2 (some .int) ∈ AW := in_t4 (List.mem_of_getElem? (i := 160) rfl) rfl
theorem aM_X3_72 : Cond.methodLink RX3 72 yX3_formulaOf ∈ AW := in_t4 (List.mem_of_getElem? (i := 161) rfl) rfl
theorem aM_X4_78 : Cond.methodLink RX4 78 yX1_left ∈ AW := in_t4 (List.mem_of_getElem? (i := 162) rfl) rfl
theorem aM_X4_41 : Cond.methodLink RX4 41 yX4_theoremFits ∈ AW := in_t4 (List.mem_of_getElem? (i := 163) rfl) rfl
theorem aI_X4_theoremFits : Cond.instanceMethod yX4_theoremFits ∈ AW := in_t4 (List.mem_of_getElem? (i := 165) rfl) rfl
theorem aC_X4_theoremFits : Cond.code yX4_theoremFits cX4_theoremFits 8 (some .boolean) ∈ AW := in_t4 (List.mem_of_getElem? (i := 166) rfl) rfl
theorem aM_X4_87 : Cond.methodLink RX4 87 yX6_premises ∈ AW := in_t4 (List.mem_of_getElem? (i := 167) rfl) rfl
theorem aM_X4_90 : Cond.methodLink RX4 90 yX6_saysWithPremises ∈ AW := in_t4 (List.mem_of_getElem? (i := 168) rfl) rfl
theorem aI_X6_saysWithPremises : Cond.instanceMethod yX6_saysWithPremises ∈ AW := in_t4 (List.mem_of_getElem? (i := 169) rfl) rfl
theorem aS_X6_saysWithPremises : Cond.selects RX6 yX6_saysWithPremises yX6_saysWithPremises ∈ AW := in_t4 (List.mem_of_getElem? (i := 170) rfl) rfl
theorem aC_X6_saysWithPremises : Cond.code yX6_saysWithPremises cX6_saysWithPremises 7 (some .boolean) ∈ AW := in_t4 (List.mem_of_getElem? (i := 171) rfl) rfl
theorem aM_X6_45 : Cond.methodLink RX6 45 yJ7_fill_53178 ∈ AW := in_t4 (List.mem_of_getElem? (i := 172) rfl) rfl
theorem aT_J7_fill_53178 : Cond.static yJ7_fill_53178 ∈ AW := in_t4 (List.mem_of_getElem? (i := 173) rfl) rfl
theorem aC_J7_fill_53178 : Cond.code yJ7_fill_53178 cJ7_fill_53178 4 none ∈ AW := in_t4 (List.mem_of_getElem? (i := 174) rfl) rfl
theorem aM_X6_51 : Cond.methodLink RX6 51 yX6_conclusion ∈ AW := in_t4 (List.mem_of_getElem? (i := 175) rfl) rfl
theorem aM_X6_55 : Cond.methodLink RX6 55 yX6_becomes ∈ AW := in_t4 (List.mem_of_getElem? (i := 176) rfl) rfl
theorem aI_X6_becomes : Cond.instanceMethod yX6_becomes ∈ AW := in_t4 (List.mem_of_getElem? (i := 178) rfl) rfl
theorem aC_X6_becomes : Cond.code yX6_becomes cX6_becomes 3 (some .boolean) ∈ AW := in_t4 (List.mem_of_getElem? (i := 179) rfl) rfl
theorem aM_X6_59 : Cond.methodLink RX6 59 yX6_firstPremise ∈ AW := in_t4 (List.mem_of_getElem? (i := 180) rfl) rfl
theorem aM_X6_62 : Cond.methodLink RX6 62 yX6_secondPremise ∈ AW := in_t4 (List.mem_of_getElem? (i := 181) rfl) rfl
theorem aM_X6_65 : Cond.methodLink RX6 65 yX6_partsBecome ∈ AW := in_t4 (List.mem_of_getElem? (i := 182) rfl) rfl
theorem aI_X6_partsBecome : Cond.instanceMethod yX6_partsBecome ∈ AW := in_t4 (List.mem_of_getElem? (i := 184) rfl) rfl
theorem aC_X6_partsBecome : Cond.code yX6_partsBecome cX6_partsBecome 4 (some .boolean) ∈ AW := in_t4 (List.mem_of_getElem? (i := 185) rfl) rfl
theorem aM_X6_74 : Cond.methodLink RX6 74 yX1_sort ∈ AW := in_t4 (List.mem_of_getElem? (i := 186) rfl) rfl
theorem aM_X6_77 : Cond.methodLink RX6 77 yX1_left ∈ AW := in_t4 (List.mem_of_getElem? (i := 187) rfl) rfl
theorem aM_X6_80 : Cond.methodLink RX6 80 yX1_second ∈ AW := in_t4 (List.mem_of_getElem? (i := 188) rfl) rfl
theorem aM_X4_45 : Cond.methodLink RX4 45 yX4_firstFits ∈ AW := in_t4 (List.mem_of_getElem? (i := 189) rfl) rfl
theorem aI_X4_firstFits : Cond.instanceMethod yX4_firstFits ∈ AW := in_t4 (List.mem_of_getElem? (i := 191) rfl) rfl
theorem aC_X4_firstFits : Cond.code yX4_firstFits cX4_firstFits 6 (some .boolean) ∈ AW := in_t4 (List.mem_of_getElem? (i := 192) rfl) rfl
theorem aM_X4_81 : Cond.methodLink RX4 81 yX1_second ∈ AW := in_t4 (List.mem_of_getElem? (i := 193) rfl) rfl
theorem aM_X4_84 : Cond.methodLink RX4 84 yX3_beginOf ∈ AW := in_t4 (List.mem_of_getElem? (i := 194) rfl) rfl
theorem aI_X3_beginOf : Cond.instanceMethod yX3_beginOf ∈ AW := in_t4 (List.mem_of_getElem? (i := 195) rfl) rfl
theorem aS_X3_beginOf : Cond.selects RX3 yX3_beginOf yX3_beginOf ∈ AW := in_t4 (List.mem_of_getElem? (i := 196) rfl) rfl
theorem aC_X3_beginOf : Cond.code yX3_beginOf cX3_beginOf 2 (some .int) ∈ AW := in_t4 (List.mem_of_getElem? (i := 197) rfl) rfl
theorem aM_X4_48 : Cond.methodLink RX4 48 yX4_secondFits ∈ AW := in_t4 (List.mem_of_getElem? (i := 198) rfl) rfl
theorem aI_X4_secondFits : Cond.instanceMethod yX4_secondFits ∈ AW := in_t4 (List.mem_of_getElem? (i := 200) rfl) rfl
theorem aC_X4_secondFits : Cond.code yX4_secondFits cX4_secondFits 5 (some .boolean) ∈ AW := in_t4 (List.mem_of_getElem? (i := 201) rfl) rfl
theorem aM_X4_51 : Cond.methodLink RX4 51 yX4_thirdFits ∈ AW := in_t4 (List.mem_of_getElem? (i := 202) rfl) rfl
theorem aI_X4_thirdFits : Cond.instanceMethod yX4_thirdFits ∈ AW := in_t4 (List.mem_of_getElem? (i := 204) rfl) rfl
theorem aC_X4_thirdFits : Cond.code yX4_thirdFits cX4_thirdFits 5 (some .boolean) ∈ AW := in_t4 (List.mem_of_getElem? (i := 205) rfl) rfl
theorem aM_X7_186 : Cond.methodLink RX7 186 yX6_noteUse ∈ AW := in_t4 (List.mem_of_getElem? (i := 206) rfl) rfl
theorem aI_X6_noteUse : Cond.instanceMethod yX6_noteUse ∈ AW := in_t4 (List.mem_of_getElem? (i := 207) rfl) rfl
theorem aS_X6_noteUse : Cond.selects RX6 yX6_noteUse yX6_noteUse ∈ AW := in_t4 (List.mem_of_getElem? (i := 208) rfl) rfl
theorem aC_X6_noteUse : Cond.code yX6_noteUse cX6_noteUse 2 none ∈ AW := in_t4 (List.mem_of_getElem? (i := 209) rfl) rfl
theorem aM_L_140 : Cond.methodLink RL 140 yL_undo ∈ AW := in_t4 (List.mem_of_getElem? (i := 210) rfl) rfl
theorem aT_L_undo : Cond.static yL_undo ∈ AW := in_t4 (List.mem_of_getElem? (i := 211) rfl) rfl
theorem aC_L_undo : Cond.codeWith yL_undo cL_undo 3 (some .int) [((0), (8), (11), (13))] ∈ AW := in_t4 (List.mem_of_getElem? (i := 212) rfl) rfl
theorem aM_L_54 : Cond.methodLink RL 54 yX7_undo ∈ AW := in_t4 (List.mem_of_getElem? (i := 213) rfl) rfl
theorem aI_X7_undo : Cond.instanceMethod yX7_undo ∈ AW := in_t4 (List.mem_of_getElem? (i := 214) rfl) rfl
theorem aS_X7_undo : Cond.selects RX7 yX7_undo yX7_undo ∈ AW := in_t4 (List.mem_of_getElem? (i := 215) rfl) rfl
theorem aC_X7_undo : Cond.code yX7_undo cX7_undo 1 (some .int) ∈ AW := in_t4 (List.mem_of_getElem? (i := 216) rfl) rfl
theorem aM_X7_189 : Cond.methodLink RX7 189 yX3_wasBegun ∈ AW := in_t4 (List.mem_of_getElem? (i := 217) rfl) rfl
theorem aI_X3_wasBegun : Cond.instanceMethod yX3_wasBegun ∈ AW := in_t4 (List.mem_of_getElem? (i := 218) rfl) rfl
theorem aS_X3_wasBegun : Cond.selects RX3 yX3_wasBegun yX3_wasBegun ∈ AW := in_t4 (List.mem_of_getElem? (i := 219) rfl) rfl
theorem aC_X3_wasBegun : Cond.code yX3_wasBegun cX3_wasBegun 1 (some .boolean) ∈ AW := in_t4 (List.mem_of_getElem? (i := 220) rfl) rfl
theorem aM_X7_195 : Cond.methodLink RX7 195 yX3_takeBack ∈ AW := in_t4 (List.mem_of_getElem? (i := 222) rfl) rfl
theorem aI_X3_takeBack : Cond.instanceMethod yX3_takeBack ∈ AW := in_t4 (List.mem_of_getElem? (i := 223) rfl) rfl
theorem aS_X3_takeBack : Cond.selects RX3 yX3_takeBack yX3_takeBack ∈ AW := in_t4 (List.mem_of_getElem? (i := 224) rfl) rfl
theorem aC_X3_takeBack : Cond.code yX3_takeBack cX3_takeBack 2 none ∈ AW := in_t4 (List.mem_of_getElem? (i := 225) rfl) rfl
theorem aM_X3_118 : Cond.methodLink RX3 118 yX0_reopen ∈ AW := in_t4 (List.mem_of_getElem? (i := 226) rfl) rfl
theorem aI_X0_reopen : Cond.instanceMethod yX0_reopen ∈ AW := in_t4 (List.mem_of_getElem? (i := 227) rfl) rfl
theorem aS_X0_reopen : Cond.selects RX0 yX0_reopen yX0_reopen ∈ AW := in_t4 (List.mem_of_getElem? (i := 228) rfl) rfl
theorem aC_X0_reopen : Cond.code yX0_reopen cX0_reopen 2 none ∈ AW := in_t4 (List.mem_of_getElem? (i := 229) rfl) rfl
theorem aM_X3_121 : Cond.methodLink RX3 121 yX3_ruleOf ∈ AW := in_t4 (List.mem_of_getElem? (i := 230) rfl) rfl
theorem aM_X3_124 : Cond.methodLink RX3 124 yX0_dropLatest ∈ AW := in_t4 (List.mem_of_getElem? (i := 231) rfl) rfl
theorem aI_X0_dropLatest : Cond.instanceMethod yX0_dropLatest ∈ AW := in_t4 (List.mem_of_getElem? (i := 232) rfl) rfl
theorem aS_X0_dropLatest : Cond.selects RX0 yX0_dropLatest yX0_dropLatest ∈ AW := in_t4 (List.mem_of_getElem? (i := 233) rfl) rfl
theorem aC_X0_dropLatest : Cond.code yX0_dropLatest cX0_dropLatest 2 none ∈ AW := in_t4 (List.mem_of_getElem? (i := 234) rfl) rfl
theorem aM_X3_127 : Cond.methodLink RX3 127 yJ9_max_7cf53 ∈ AW := in_t4 (List.mem_of_getElem? (i := 235) rfl) rfl
theorem aT_J9_max_7cf53 : Cond.static yJ9_max_7cf53 ∈ AW := in_t4 (List.mem_of_getElem? (i := 236) rfl) rfl
theorem aC_J9_max_7cf53 : Cond.code yJ9_max_7cf53 cJ9_max_7cf53 2 (some .int) ∈ AW := in_t4 (List.mem_of_getElem? (i := 237) rfl) rfl
theorem aM_L_143 : Cond.methodLink RL 143 yL_count ∈ AW := in_t4 (List.mem_of_getElem? (i := 238) rfl) rfl
theorem aT_L_count : Cond.static yL_count ∈ AW := in_t4 (List.mem_of_getElem? (i := 239) rfl) rfl
theorem aC_L_count : Cond.codeWith yL_count cL_count 4 (some .int) [((0), (9), (12), (25))] ∈ AW := in_t5 (List.mem_of_getElem? (i := 0) rfl) rfl
theorem aM_L_57 : Cond.methodLink RL 57 yX7_count ∈ AW := in_t5 (List.mem_of_getElem? (i := 1) rfl) rfl
theorem aM_L_146 : Cond.methodLink RL 146 yL_line ∈ AW := in_t5 (List.mem_of_getElem? (i := 2) rfl) rfl
theorem aT_L_line : Cond.static yL_line ∈ AW := in_t5 (List.mem_of_getElem? (i := 3) rfl) rfl
theorem aC_L_line : Cond.codeWith yL_line cL_line 5 (some .int) [((0), (10), (13), (25))] ∈ AW := in_t5 (List.mem_of_getElem? (i := 4) rfl) rfl
theorem aM_L_60 : Cond.methodLink RL 60 yX7_line ∈ AW := in_t5 (List.mem_of_getElem? (i := 5) rfl) rfl
theorem aM_L_149 : Cond.methodLink RL 149 yL_box ∈ AW := in_t5 (List.mem_of_getElem? (i := 6) rfl) rfl
theorem aT_L_box : Cond.static yL_box ∈ AW := in_t5 (List.mem_of_getElem? (i := 7) rfl) rfl
theorem aC_L_box : Cond.codeWith yL_box cL_box 5 (some .int) [((0), (10), (13), (25))] ∈ AW := in_t5 (List.mem_of_getElem? (i := 8) rfl) rfl
theorem aM_L_63 : Cond.methodLink RL 63 yX7_box ∈ AW := in_t5 (List.mem_of_getElem? (i := 9) rfl) rfl
theorem aM_L_152 : Cond.methodLink RL 152 yL_fails ∈ AW := in_t5 (List.mem_of_getElem? (i := 10) rfl) rfl
theorem aT_L_fails : Cond.static yL_fails ∈ AW := in_t5 (List.mem_of_getElem? (i := 11) rfl) rfl
theorem aC_L_fails : Cond.codeWith yL_fails cL_fails 4 (some .int) [((0), (9), (12), (25))] ∈ AW := in_t5 (List.mem_of_getElem? (i := 12) rfl) rfl
theorem aM_L_66 : Cond.methodLink RL 66 yX7_fails ∈ AW := in_t5 (List.mem_of_getElem? (i := 13) rfl) rfl
theorem aI_X7_fails : Cond.instanceMethod yX7_fails ∈ AW := in_t5 (List.mem_of_getElem? (i := 14) rfl) rfl
theorem aS_X7_fails : Cond.selects RX7 yX7_fails yX7_fails ∈ AW := in_t5 (List.mem_of_getElem? (i := 15) rfl) rfl
theorem aC_X7_fails : Cond.code yX7_fails cX7_fails 2 (some .int) ∈ AW := in_t5 (List.mem_of_getElem? (i := 16) rfl) rfl
theorem aM_X7_247 : Cond.methodLink RX7 247 yX3_failures ∈ AW := in_t5 (List.mem_of_getElem? (i := 18) rfl) rfl
theorem aI_X3_failures : Cond.instanceMethod yX3_failures ∈ AW := in_t5 (List.mem_of_getElem? (i := 19) rfl) rfl
theorem aS_X3_failures : Cond.selects RX3 yX3_failures yX3_failures ∈ AW := in_t5 (List.mem_of_getElem? (i := 20) rfl) rfl
theorem aC_X3_failures : Cond.code yX3_failures cX3_failures 4 (some .int) ∈ AW := in_t5 (List.mem_of_getElem? (i := 21) rfl) rfl
theorem aM_X3_149 : Cond.methodLink RX3 149 yX3_failuresIn ∈ AW := in_t5 (List.mem_of_getElem? (i := 22) rfl) rfl
theorem aI_X3_failuresIn : Cond.instanceMethod yX3_failuresIn ∈ AW := in_t5 (List.mem_of_getElem? (i := 24) rfl) rfl
theorem aC_X3_failuresIn : Cond.code yX3_failuresIn cX3_failuresIn 8 (some .long) ∈ AW := in_t5 (List.mem_of_getElem? (i := 25) rfl) rfl
theorem aM_X3_159 : Cond.methodLink RX3 159 yX1_truth ∈ AW := in_t5 (List.mem_of_getElem? (i := 26) rfl) rfl
theorem aK_X3_162 : Cond.constantLong RX3 162 (-1) ∈ AW := in_t5 (List.mem_of_getElem? (i := 27) rfl) rfl
theorem aM_X3_164 : Cond.methodLink RX3 164 yX3_premiseCount ∈ AW := in_t5 (List.mem_of_getElem? (i := 28) rfl) rfl
theorem aM_X3_167 : Cond.methodLink RX3 167 yX3_boxOf ∈ AW := in_t5 (List.mem_of_getElem? (i := 29) rfl) rfl
theorem aM_X3_170 : Cond.methodLink RX3 170 yX3_beginOf ∈ AW := in_t5 (List.mem_of_getElem? (i := 30) rfl) rfl
theorem aM_X3_153 : Cond.methodLink RX3 153 yJ13_bitCount_95d88 ∈ AW := in_t5 (List.mem_of_getElem? (i := 31) rfl) rfl
theorem aM_L_155 : Cond.methodLink RL 155 yL_hint ∈ AW := in_t5 (List.mem_of_getElem? (i := 32) rfl) rfl
theorem aT_L_hint : Cond.static yL_hint ∈ AW := in_t5 (List.mem_of_getElem? (i := 33) rfl) rfl
theorem aC_L_hint : Cond.codeWith yL_hint cL_hint 5 (some .int) [((0), (10), (13), (25))] ∈ AW := in_t5 (List.mem_of_getElem? (i := 34) rfl) rfl
theorem aM_L_69 : Cond.methodLink RL 69 yX7_hint ∈ AW := in_t5 (List.mem_of_getElem? (i := 35) rfl) rfl
theorem aI_X7_hint : Cond.instanceMethod yX7_hint ∈ AW := in_t5 (List.mem_of_getElem? (i := 36) rfl) rfl
theorem aS_X7_hint : Cond.selects RX7 yX7_hint yX7_hint ∈ AW := in_t5 (List.mem_of_getElem? (i := 37) rfl) rfl
theorem aC_X7_hint : Cond.code yX7_hint cX7_hint 4 (some .int) ∈ AW := in_t5 (List.mem_of_getElem? (i := 38) rfl) rfl
theorem aM_X7_250 : Cond.methodLink RX7 250 yX4_search ∈ AW := in_t5 (List.mem_of_getElem? (i := 39) rfl) rfl
theorem aI_X4_search : Cond.instanceMethod yX4_search ∈ AW := in_t5 (List.mem_of_getElem? (i := 40) rfl) rfl
theorem aS_X4_search : Cond.selects RX4 yX4_search yX4_search ∈ AW := in_t5 (List.mem_of_getElem? (i := 41) rfl) rfl
theorem aC_X4_search : Cond.code yX4_search cX4_search 6 (some .boolean) ∈ AW := in_t5 (List.mem_of_getElem? (i := 42) rfl) rfl
theorem aM_X4_93 : Cond.methodLink RX4 93 yX4_choices ∈ AW := in_t5 (List.mem_of_getElem? (i := 43) rfl) rfl
theorem aI_X4_choices : Cond.instanceMethod yX4_choices ∈ AW := in_t5 (List.mem_of_getElem? (i := 45) rfl) rfl
theorem aC_X4_choices : Cond.code yX4_choices cX4_choices 3 (some .int) ∈ AW := in_t5 (List.mem_of_getElem? (i := 46) rfl) rfl
theorem aM_X4_105 : Cond.methodLink RX4 105 yX3_lineCount ∈ AW := in_t5 (List.mem_of_getElem? (i := 47) rfl) rfl
theorem aM_X4_109 : Cond.methodLink RX4 109 yX3_boxCount ∈ AW := in_t5 (List.mem_of_getElem? (i := 48) rfl) rfl
theorem aM_X4_97 : Cond.methodLink RX4 97 yX4_refusal ∈ AW := in_t5 (List.mem_of_getElem? (i := 49) rfl) rfl
theorem aM_X4_101 : Cond.methodLink RX4 101 yX4_keep ∈ AW := in_t5 (List.mem_of_getElem? (i := 50) rfl) rfl
theorem aI_X4_keep : Cond.instanceMethod yX4_keep ∈ AW := in_t5 (List.mem_of_getElem? (i := 52) rfl) rfl
theorem aC_X4_keep : Cond.code yX4_keep cX4_keep 5 none ∈ AW := in_t5 (List.mem_of_getElem? (i := 53) rfl) rfl
theorem aM_X7_254 : Cond.methodLink RX7 254 yX4_found ∈ AW := in_t5 (List.mem_of_getElem? (i := 54) rfl) rfl
theorem aI_X4_found : Cond.instanceMethod yX4_found ∈ AW := in_t5 (List.mem_of_getElem? (i := 55) rfl) rfl
theorem aS_X4_found : Cond.selects RX4 yX4_found yX4_found ∈ AW := in_t5 (List.mem_of_getElem? (i := 56) rfl) rfl
theorem aC_X4_found : Cond.code yX4_found cX4_found 2 (some .int) ∈ AW := in_t5 (List.mem_of_getElem? (i := 57) rfl) rfl
theorem aM_L_158 : Cond.methodLink RL 158 yL_end ∈ AW := in_t5 (List.mem_of_getElem? (i := 58) rfl) rfl
theorem aT_L_end : Cond.static yL_end ∈ AW := in_t5 (List.mem_of_getElem? (i := 59) rfl) rfl
theorem aC_L_end : Cond.codeWith yL_end cL_end 3 (some .int) [((0), (8), (11), (13))] ∈ AW := in_t5 (List.mem_of_getElem? (i := 60) rfl) rfl
theorem aM_L_72 : Cond.methodLink RL 72 yX7_end ∈ AW := in_t5 (List.mem_of_getElem? (i := 61) rfl) rfl
theorem aI_X7_end : Cond.instanceMethod yX7_end ∈ AW := in_t5 (List.mem_of_getElem? (i := 62) rfl) rfl
theorem aS_X7_end : Cond.selects RX7 yX7_end yX7_end ∈ AW := in_t5 (List.mem_of_getElem? (i := 63) rfl) rfl
theorem aC_X7_end : Cond.code yX7_end cX7_end 6 (some .int) ∈ AW := in_t5 (List.mem_of_getElem? (i := 64) rfl) rfl
theorem aM_X7_261 : Cond.methodLink RX7 261 yX6_add ∈ AW := in_t5 (List.mem_of_getElem? (i := 67) rfl) rfl
theorem aI_X6_add : Cond.instanceMethod yX6_add ∈ AW := in_t5 (List.mem_of_getElem? (i := 68) rfl) rfl
theorem aS_X6_add : Cond.selects RX6 yX6_add yX6_add ∈ AW := in_t5 (List.mem_of_getElem? (i := 69) rfl) rfl
theorem aC_X6_add : Cond.code yX6_add cX6_add 7 (some .int) ∈ AW := in_t5 (List.mem_of_getElem? (i := 70) rfl) rfl
theorem aM_L_161 : Cond.methodLink RL 161 yL_theorem ∈ AW := in_t5 (List.mem_of_getElem? (i := 71) rfl) rfl
theorem aT_L_theorem : Cond.static yL_theorem ∈ AW := in_t5 (List.mem_of_getElem? (i := 72) rfl) rfl
theorem aC_L_theorem : Cond.codeWith yL_theorem cL_theorem 5 (some .int) [((0), (10), (13), (25))] ∈ AW := in_t5 (List.mem_of_getElem? (i := 73) rfl) rfl
theorem aM_L_75 : Cond.methodLink RL 75 yX7_theorem ∈ AW := in_t5 (List.mem_of_getElem? (i := 74) rfl) rfl
theorem aM_L_164 : Cond.methodLink RL 164 yL_instance ∈ AW := in_t5 (List.mem_of_getElem? (i := 75) rfl) rfl
theorem aT_L_instance : Cond.static yL_instance ∈ AW := in_t5 (List.mem_of_getElem? (i := 76) rfl) rfl
theorem aC_L_instance : Cond.codeWith yL_instance cL_instance 6 (some .int) [((0), (12), (15), (25))] ∈ AW := in_t5 (List.mem_of_getElem? (i := 77) rfl) rfl
theorem aM_L_78 : Cond.methodLink RL 78 yX7_instance ∈ AW := in_t5 (List.mem_of_getElem? (i := 78) rfl) rfl
theorem aI_X7_instance : Cond.instanceMethod yX7_instance ∈ AW := in_t5 (List.mem_of_getElem? (i := 79) rfl) rfl
theorem aS_X7_instance : Cond.selects RX7 yX7_instance yX7_instance ∈ AW := in_t5 (List.mem_of_getElem? (i := 80) rfl) rfl
theorem aC_X7_instance : Cond.code yX7_instance cX7_instance 4 (some .int) ∈ AW := in_t5 (List.mem_of_getElem? (i := 81) rfl) rfl
theorem aM_X7_288 : Cond.methodLink RX7 288 yX6_concludes ∈ AW := in_t5 (List.mem_of_getElem? (i := 83) rfl) rfl
theorem aI_X6_concludes : Cond.instanceMethod yX6_concludes ∈ AW := in_t5 (List.mem_of_getElem? (i := 84) rfl) rfl
theorem aS_X6_concludes : Cond.selects RX6 yX6_concludes yX6_concludes ∈ AW := in_t5 (List.mem_of_getElem? (i := 85) rfl) rfl
theorem aC_X6_concludes : Cond.code yX6_concludes cX6_concludes 3 (some .boolean) ∈ AW := in_t5 (List.mem_of_getElem? (i := 86) rfl) rfl
theorem aM_X6_41 : Cond.methodLink RX6 41 yX6_saysWithPremises ∈ AW := in_t5 (List.mem_of_getElem? (i := 87) rfl) rfl
theorem aM_X7_291 : Cond.methodLink RX7 291 yX6_imageOfLetter ∈ AW := in_t5 (List.mem_of_getElem? (i := 88) rfl) rfl
theorem aI_X6_imageOfLetter : Cond.instanceMethod yX6_imageOfLetter ∈ AW := in_t5 (List.mem_of_getElem? (i := 89) rfl) rfl
theorem aS_X6_imageOfLetter : Cond.selects RX6 yX6_imageOfLetter yX6_imageOfLetter ∈ AW := in_t5 (List.mem_of_getElem? (i := 90) rfl) rfl
theorem aC_X6_imageOfLetter : Cond.code yX6_imageOfLetter cX6_imageOfLetter 3 (some .int) ∈ AW := in_t5 (List.mem_of_getElem? (i := 91) rfl) rfl
theorem aM_X6_68 : Cond.methodLink RX6 68 yX1_find ∈ AW := in_t5 (List.mem_of_getElem? (i := 92) rfl) rfl
theorem aL_L_82 : Cond.classLink RL 82 RX8 ∈ AW := in_t5 (List.mem_of_getElem? (i := 93) rfl) rfl
theorem aX_X8 : Cond.instantiable RX8 42 ∈ AW := in_t5 (List.mem_of_getElem? (i := 94) rfl) rfl
theorem aM_L_84 : Cond.methodLink RL 84 yX8_init ∈ AW := in_t5 (List.mem_of_getElem? (i := 95) rfl) rfl
theorem aI_X8_init : Cond.instanceMethod yX8_init ∈ AW := in_t5 (List.mem_of_getElem? (i := 96) rfl) rfl
theorem aC_X8_init : Cond.code yX8_init cX8_init 1 none ∈ AW := in_t5 (List.mem_of_getElem? (i := 97) rfl) rfl
theorem aM_X8_1 : Cond.methodLink RX8 1 objectInit ∈ AW := in_t5 (List.mem_of_getElem? (i := 98) rfl) rfl
theorem aK_X8_35 : Cond.constant RX8 35 (61440) ∈ AW := in_t5 (List.mem_of_getElem? (i := 99) rfl) rfl
theorem aF_X8_106 : Cond.fieldLink RX8 106 "ProofDeskModel" "thrown" "I" ∈ AW := in_t5 (List.mem_of_getElem? (i := 100) rfl) rfl
theorem aF_X8_9 : Cond.fieldLink RX8 9 "ProofDeskModel" "tape" "[I" ∈ AW := in_t5 (List.mem_of_getElem? (i := 101) rfl) rfl
theorem aF_X8_116 : Cond.fieldLink RX8 116 "ProofDeskModel" "length" "I" ∈ AW := in_t5 (List.mem_of_getElem? (i := 102) rfl) rfl
theorem aF_X8_13 : Cond.fieldLink RX8 13 "ProofDeskModel" "errorAt" "I" ∈ AW := in_t5 (List.mem_of_getElem? (i := 103) rfl) rfl
theorem aF_X8_145 : Cond.fieldLink RX8 145 "ProofDeskModel" "at" "I" ∈ AW := in_t5 (List.mem_of_getElem? (i := 104) rfl) rfl
theorem aF_X8_17 : Cond.fieldLink RX8 17 "ProofDeskModel" "paper" "[I" ∈ AW := in_t5 (List.mem_of_getElem? (i := 105) rfl) rfl
theorem aF_X8_196 : Cond.fieldLink RX8 196 "ProofDeskModel" "papered" "I" ∈ AW := in_t5 (List.mem_of_getElem? (i := 106) rfl) rfl
theorem aF_X8_109 : Cond.fieldLink RX8 109 "ProofDeskModel" "formulas" "I" ∈ AW := in_t5 (List.mem_of_getElem? (i := 107) rfl) rfl
theorem aF_X8_20 : Cond.fieldLink RX8 20 "ProofDeskModel" "sorts" "[I" ∈ AW := in_t5 (List.mem_of_getElem? (i := 108) rfl) rfl
theorem aF_X8_23 : Cond.fieldLink RX8 23 "ProofDeskModel" "firsts" "[I" ∈ AW := in_t5 (List.mem_of_getElem? (i := 109) rfl) rfl
theorem aF_X8_26 : Cond.fieldLink RX8 26 "ProofDeskModel" "seconds" "[I" ∈ AW := in_t5 (List.mem_of_getElem? (i := 110) rfl) rfl
theorem aF_X8_29 : Cond.fieldLink RX8 29 "ProofDeskModel" "letters" "[I" ∈ AW := in_t5 (List.mem_of_getElem? (i := 111) rfl) rfl
theorem aF_X8_32 : Cond.fieldLink RX8 32 "ProofDeskModel" "sizes" "[I" ∈ AW := in_t5 (List.mem_of_getElem? (i := 112) rfl) rfl
theorem aF_X8_36 : Cond.fieldLink RX8 36 "ProofDeskModel" "truths" "[Z" ∈ AW := in_t5 (List.mem_of_getElem? (i := 113) rfl) rfl
theorem aF_X8_199 : Cond.fieldLink RX8 199 "ProofDeskModel" "lines" "I" ∈ AW := in_t5 (List.mem_of_getElem? (i := 114) rfl) rfl
theorem aF_X8_40 : Cond.fieldLink RX8 40 "ProofDeskModel" "shown" "[I" ∈ AW := in_t5 (List.mem_of_getElem? (i := 115) rfl) rfl
theorem aF_X8_43 : Cond.fieldLink RX8 43 "ProofDeskModel" "rules" "[I" ∈ AW := in_t5 (List.mem_of_getElem? (i := 116) rfl) rfl
theorem aF_X8_46 : Cond.fieldLink RX8 46 "ProofDeskModel" "references" "[I" ∈ AW := in_t5 (List.mem_of_getElem? (i := 117) rfl) rfl
theorem aF_X8_49 : Cond.fieldLink RX8 49 "ProofDeskModel" "boxOf" "[I" ∈ AW := in_t5 (List.mem_of_getElem? (i := 118) rfl) rfl
theorem aF_X8_202 : Cond.fieldLink RX8 202 "ProofDeskModel" "boxes" "I" ∈ AW := in_t5 (List.mem_of_getElem? (i := 119) rfl) rfl
theorem aF_X8_52 : Cond.fieldLink RX8 52 "ProofDeskModel" "begins" "[I" ∈ AW := in_t5 (List.mem_of_getElem? (i := 120) rfl) rfl
theorem aF_X8_55 : Cond.fieldLink RX8 55 "ProofDeskModel" "ends" "[I" ∈ AW := in_t5 (List.mem_of_getElem? (i := 121) rfl) rfl
theorem aF_X8_58 : Cond.fieldLink RX8 58 "ProofDeskModel" "outer" "[I" ∈ AW := in_t5 (List.mem_of_getElem? (i := 122) rfl) rfl
theorem aF_X8_61 : Cond.fieldLink RX8 61 "ProofDeskModel" "inner" "I" ∈ AW := in_t5 (List.mem_of_getElem? (i := 123) rfl) rfl
theorem aF_X8_205 : Cond.fieldLink RX8 205 "ProofDeskModel" "done" "I" ∈ AW := in_t5 (List.mem_of_getElem? (i := 124) rfl) rfl
theorem aF_X8_64 : Cond.fieldLink RX8 64 "ProofDeskModel" "deeds" "[I" ∈ AW := in_t5 (List.mem_of_getElem? (i := 125) rfl) rfl
theorem aF_X8_227 : Cond.fieldLink RX8 227 "ProofDeskModel" "theorems" "I" ∈ AW := in_t5 (List.mem_of_getElem? (i := 126) rfl) rfl
theorem aF_X8_67 : Cond.fieldLink RX8 67 "ProofDeskModel" "conclusions" "[I" ∈ AW := in_t5 (List.mem_of_getElem? (i := 127) rfl) rfl
theorem aF_X8_70 : Cond.fieldLink RX8 70 "ProofDeskModel" "premises" "[I" ∈ AW := in_t5 (List.mem_of_getElem? (i := 128) rfl) rfl
theorem aF_X8_73 : Cond.fieldLink RX8 73 "ProofDeskModel" "premise" "[I" ∈ AW := in_t5 (List.mem_of_getElem? (i := 129) rfl) rfl
theorem aF_X8_76 : Cond.fieldLink RX8 76 "ProofDeskModel" "proofLines" "[I" ∈ AW := in_t5 (List.mem_of_getElem? (i := 130) rfl) rfl
theorem aF_X8_79 : Cond.fieldLink RX8 79 "ProofDeskModel" "proofNeeded" "[I" ∈ AW := in_t5 (List.mem_of_getElem? (i := 131) rfl) rfl
theorem aF_X8_82 : Cond.fieldLink RX8 82 "ProofDeskModel" "uses" "[I" ∈ AW := in_t5 (List.mem_of_getElem? (i := 132) rfl) rfl
theorem aF_X8_142 : Cond.fieldLink RX8 142 "ProofDeskModel" "parts" "I" ∈ AW := in_t5 (List.mem_of_getElem? (i := 133) rfl) rfl
theorem aF_X8_85 : Cond.fieldLink RX8 85 "ProofDeskModel" "partSorts" "[I" ∈ AW := in_t5 (List.mem_of_getElem? (i := 134) rfl) rfl
theorem aF_X8_88 : Cond.fieldLink RX8 88 "ProofDeskModel" "partA" "[I" ∈ AW := in_t5 (List.mem_of_getElem? (i := 135) rfl) rfl
theorem aF_X8_91 : Cond.fieldLink RX8 91 "ProofDeskModel" "partB" "[I" ∈ AW := in_t5 (List.mem_of_getElem? (i := 136) rfl) rfl
theorem aF_X8_94 : Cond.fieldLink RX8 94 "ProofDeskModel" "draft" "[I" ∈ AW := in_t5 (List.mem_of_getElem? (i := 137) rfl) rfl
theorem aF_X8_180 : Cond.fieldLink RX8 180 "ProofDeskModel" "drafted" "I" ∈ AW := in_t5 (List.mem_of_getElem? (i := 138) rfl) rfl
theorem aF_X8_97 : Cond.fieldLink RX8 97 "ProofDeskModel" "stands" "[I" ∈ AW := in_t5 (List.mem_of_getElem? (i := 139) rfl) rfl
theorem aF_X8_100 : Cond.fieldLink RX8 100 "ProofDeskModel" "areNeeded" "[Z" ∈ AW := in_t5 (List.mem_of_getElem? (i := 140) rfl) rfl
theorem aF_X8_103 : Cond.fieldLink RX8 103 "ProofDeskModel" "hinted" "[I" ∈ AW := in_t5 (List.mem_of_getElem? (i := 141) rfl) rfl
theorem aY_X8_thrown : Cond.lays RX8 "ProofDeskModel" "thrown" "I" ∈ AW := in_t5 (List.mem_of_getElem? (i := 142) rfl) rfl
theorem aY_X8_tape : Cond.laysFinal RX8 "ProofDeskModel" "tape" "[I" ∈ AW := in_t5 (List.mem_of_getElem? (i := 144) rfl) rfl
theorem aY_X8_length : Cond.lays RX8 "ProofDeskModel" "length" "I" ∈ AW := in_t5 (List.mem_of_getElem? (i := 146) rfl) rfl
theorem aY_X8_errorAt : Cond.lays RX8 "ProofDeskModel" "errorAt" "I" ∈ AW := in_t5 (List.mem_of_getElem? (i := 148) rfl) rfl
theorem aY_X8_at : Cond.lays RX8 "ProofDeskModel" "at" "I" ∈ AW := in_t5 (List.mem_of_getElem? (i := 150) rfl) rfl
theorem aY_X8_paper : Cond.laysFinal RX8 "ProofDeskModel" "paper" "[I" ∈ AW := in_t5 (List.mem_of_getElem? (i := 152) rfl) rfl
theorem aY_X8_papered : Cond.lays RX8 "ProofDeskModel" "papered" "I" ∈ AW := in_t5 (List.mem_of_getElem? (i := 154) rfl) rfl
theorem aY_X8_formulas : Cond.lays RX8 "ProofDeskModel" "formulas" "I" ∈ AW := in_t5 (List.mem_of_getElem? (i := 156) rfl) rfl
theorem aY_X8_sorts : Cond.laysFinal RX8 "ProofDeskModel" "sorts" "[I" ∈ AW := in_t5 (List.mem_of_getElem? (i := 158) rfl) rfl
theorem aY_X8_firsts : Cond.laysFinal RX8 "ProofDeskModel" "firsts" "[I" ∈ AW := in_t5 (List.mem_of_getElem? (i := 160) rfl) rfl
theorem aY_X8_seconds : Cond.laysFinal RX8 "ProofDeskModel" "seconds" "[I" ∈ AW := in_t5 (List.mem_of_getElem? (i := 162) rfl) rfl
theorem aY_X8_letters : Cond.laysFinal RX8 "ProofDeskModel" "letters" "[I" ∈ AW := in_t5 (List.mem_of_getElem? (i := 164) rfl) rfl
theorem aY_X8_sizes : Cond.laysFinal RX8 "ProofDeskModel" "sizes" "[I" ∈ AW := in_t5 (List.mem_of_getElem? (i := 166) rfl) rfl
theorem aY_X8_truths : Cond.laysFinal RX8 "ProofDeskModel" "truths" "[Z" ∈ AW := in_t5 (List.mem_of_getElem? (i := 168) rfl) rfl
theorem aY_X8_lines : Cond.lays RX8 "ProofDeskModel" "lines" "I" ∈ AW := in_t5 (List.mem_of_getElem? (i := 170) rfl) rfl
theorem aY_X8_shown : Cond.laysFinal RX8 "ProofDeskModel" "shown" "[I" ∈ AW := in_t5 (List.mem_of_getElem? (i := 172) rfl) rfl
theorem aY_X8_rules : Cond.laysFinal RX8 "ProofDeskModel" "rules" "[I" ∈ AW := in_t5 (List.mem_of_getElem? (i := 174) rfl) rfl
theorem aY_X8_references : Cond.laysFinal RX8 "ProofDeskModel" "references" "[I" ∈ AW := in_t5 (List.mem_of_getElem? (i := 176) rfl) rfl
theorem aY_X8_boxOf : Cond.laysFinal RX8 "ProofDeskModel" "boxOf" "[I" ∈ AW := in_t5 (List.mem_of_getElem? (i := 178) rfl) rfl
theorem aY_X8_boxes : Cond.lays RX8 "ProofDeskModel" "boxes" "I" ∈ AW := in_t5 (List.mem_of_getElem? (i := 180) rfl) rfl
theorem aY_X8_begins : Cond.laysFinal RX8 "ProofDeskModel" "begins" "[I" ∈ AW := in_t5 (List.mem_of_getElem? (i := 182) rfl) rfl
theorem aY_X8_ends : Cond.laysFinal RX8 "ProofDeskModel" "ends" "[I" ∈ AW := in_t5 (List.mem_of_getElem? (i := 184) rfl) rfl
theorem aY_X8_outer : Cond.laysFinal RX8 "ProofDeskModel" "outer" "[I" ∈ AW := in_t5 (List.mem_of_getElem? (i := 186) rfl) rfl
theorem aY_X8_inner : Cond.lays RX8 "ProofDeskModel" "inner" "I" ∈ AW := in_t5 (List.mem_of_getElem? (i := 188) rfl) rfl
theorem aY_X8_done : Cond.lays RX8 "ProofDeskModel" "done" "I" ∈ AW := in_t5 (List.mem_of_getElem? (i := 190) rfl) rfl
theorem aY_X8_deeds : Cond.laysFinal RX8 "ProofDeskModel" "deeds" "[I" ∈ AW := in_t5 (List.mem_of_getElem? (i := 192) rfl) rfl
theorem aY_X8_theorems : Cond.lays RX8 "ProofDeskModel" "theorems" "I" ∈ AW := in_t5 (List.mem_of_getElem? (i := 194) rfl) rfl
theorem aY_X8_conclusions : Cond.laysFinal RX8 "ProofDeskModel" "conclusions" "[I" ∈ AW := in_t5 (List.mem_of_getElem? (i := 196) rfl) rfl
theorem aY_X8_premises : Cond.laysFinal RX8 "ProofDeskModel" "premises" "[I" ∈ AW := in_t5 (List.mem_of_getElem? (i := 198) rfl) rfl
theorem aY_X8_premise : Cond.laysFinal RX8 "ProofDeskModel" "premise" "[I" ∈ AW := in_t5 (List.mem_of_getElem? (i := 200) rfl) rfl
theorem aY_X8_proofLines : Cond.laysFinal RX8 "ProofDeskModel" "proofLines" "[I" ∈ AW := in_t5 (List.mem_of_getElem? (i := 202) rfl) rfl
theorem aY_X8_proofNeeded : Cond.laysFinal RX8 "ProofDeskModel" "proofNeeded" "[I" ∈ AW := in_t5 (List.mem_of_getElem? (i := 204) rfl) rfl
theorem aY_X8_uses : Cond.laysFinal RX8 "ProofDeskModel" "uses" "[I" ∈ AW := in_t5 (List.mem_of_getElem? (i := 206) rfl) rfl
theorem aY_X8_parts : Cond.lays RX8 "ProofDeskModel" "parts" "I" ∈ AW := in_t5 (List.mem_of_getElem? (i := 208) rfl) rfl
theorem aY_X8_partSorts : Cond.laysFinal RX8 "ProofDeskModel" "partSorts" "[I" ∈ AW := in_t5 (List.mem_of_getElem? (i := 210) rfl) rfl
theorem aY_X8_partA : Cond.laysFinal RX8 "ProofDeskModel" "partA" "[I" ∈ AW := in_t5 (List.mem_of_getElem? (i := 212) rfl) rfl
theorem aY_X8_partB : Cond.laysFinal RX8 "ProofDeskModel" "partB" "[I" ∈ AW := in_t5 (List.mem_of_getElem? (i := 214) rfl) rfl
theorem aY_X8_draft : Cond.laysFinal RX8 "ProofDeskModel" "draft" "[I" ∈ AW := in_t5 (List.mem_of_getElem? (i := 216) rfl) rfl
theorem aY_X8_drafted : Cond.lays RX8 "ProofDeskModel" "drafted" "I" ∈ AW := in_t5 (List.mem_of_getElem? (i := 218) rfl) rfl
theorem aY_X8_stands : Cond.laysFinal RX8 "ProofDeskModel" "stands" "[I" ∈ AW := in_t5 (List.mem_of_getElem? (i := 220) rfl) rfl
theorem aY_X8_areNeeded : Cond.laysFinal RX8 "ProofDeskModel" "areNeeded" "[Z" ∈ AW := in_t5 (List.mem_of_getElem? (i := 222) rfl) rfl
theorem aY_X8_hinted : Cond.laysFinal RX8 "ProofDeskModel" "hinted" "[I" ∈ AW := in_t5 (List.mem_of_getElem? (i := 224) rfl) rfl
theorem aM_L_91 : Cond.methodLink RL 91 yX8_thrown ∈ AW := in_t5 (List.mem_of_getElem? (i := 227) rfl) rfl
theorem aI_X8_thrown : Cond.instanceMethod yX8_thrown ∈ AW := in_t5 (List.mem_of_getElem? (i := 228) rfl) rfl
theorem aS_X8_thrown : Cond.selects RX8 yX8_thrown yX8_thrown ∈ AW := in_t5 (List.mem_of_getElem? (i := 229) rfl) rfl
theorem aC_X8_thrown : Cond.code yX8_thrown cX8_thrown 1 (some .int) ∈ AW := in_t5 (List.mem_of_getElem? (i := 230) rfl) rfl
theorem aM_L_90 : Cond.methodLink RL 90 yX8_feed ∈ AW := in_t5 (List.mem_of_getElem? (i := 231) rfl) rfl
theorem aI_X8_feed : Cond.instanceMethod yX8_feed ∈ AW := in_t5 (List.mem_of_getElem? (i := 232) rfl) rfl
theorem aS_X8_feed : Cond.selects RX8 yX8_feed yX8_feed ∈ AW := in_t5 (List.mem_of_getElem? (i := 233) rfl) rfl
theorem aC_X8_feed : Cond.code yX8_feed cX8_feed 12 (some .int) ∈ AW := in_t5 (List.mem_of_getElem? (i := 234) rfl) rfl
theorem aM_X8_119 : Cond.methodLink RX8 119 yX8_no ∈ AW := in_t5 (List.mem_of_getElem? (i := 235) rfl) rfl
theorem aI_X8_no : Cond.instanceMethod yX8_no ∈ AW := in_t5 (List.mem_of_getElem? (i := 237) rfl) rfl
theorem aC_X8_no : Cond.code yX8_no cX8_no 2 (some .int) ∈ AW := in_t5 (List.mem_of_getElem? (i := 238) rfl) rfl
theorem aM_L_97 : Cond.methodLink RL 97 yX8_trim ∈ AW := in_t5 (List.mem_of_getElem? (i := 239) rfl) rfl
theorem aI_X8_trim : Cond.instanceMethod yX8_trim ∈ AW := in_t6 (List.mem_of_getElem? (i := 0) rfl) rfl
theorem aS_X8_trim : Cond.selects RX8 yX8_trim yX8_trim ∈ AW := in_t6 (List.mem_of_getElem? (i := 1) rfl) rfl
theorem aC_X8_trim : Cond.code yX8_trim cX8_trim 2 (some .int) ∈ AW := in_t6 (List.mem_of_getElem? (i := 2) rfl) rfl
theorem aM_X8_112 : Cond.methodLink RX8 112 yX8_isIn ∈ AW := in_t6 (List.mem_of_getElem? (i := 3) rfl) rfl
theorem aT_X8_isIn : Cond.static yX8_isIn ∈ AW := in_t6 (List.mem_of_getElem? (i := 4) rfl) rfl
theorem aC_X8_isIn : Cond.code yX8_isIn cX8_isIn 3 (some .boolean) ∈ AW := in_t6 (List.mem_of_getElem? (i := 5) rfl) rfl
theorem aM_L_101 : Cond.methodLink RL 101 yX8_read ∈ AW := in_t6 (List.mem_of_getElem? (i := 6) rfl) rfl
theorem aI_X8_read : Cond.instanceMethod yX8_read ∈ AW := in_t6 (List.mem_of_getElem? (i := 7) rfl) rfl
theorem aS_X8_read : Cond.selects RX8 yX8_read yX8_read ∈ AW := in_t6 (List.mem_of_getElem? (i := 8) rfl) rfl
theorem aC_X8_read : Cond.code yX8_read cX8_read 7 (some .int) ∈ AW := in_t6 (List.mem_of_getElem? (i := 9) rfl) rfl
theorem aM_X8_159 : Cond.methodLink RX8 159 yX8_form ∈ AW := in_t6 (List.mem_of_getElem? (i := 10) rfl) rfl
theorem aI_X8_form : Cond.instanceMethod yX8_form ∈ AW := in_t6 (List.mem_of_getElem? (i := 12) rfl) rfl
theorem aC_X8_form : Cond.code yX8_form cX8_form 4 (some .int) ∈ AW := in_t6 (List.mem_of_getElem? (i := 13) rfl) rfl
theorem aM_X8_148 : Cond.methodLink RX8 148 yX8_here ∈ AW := in_t6 (List.mem_of_getElem? (i := 14) rfl) rfl
theorem aI_X8_here : Cond.instanceMethod yX8_here ∈ AW := in_t6 (List.mem_of_getElem? (i := 16) rfl) rfl
theorem aC_X8_here : Cond.code yX8_here cX8_here 1 (some .int) ∈ AW := in_t6 (List.mem_of_getElem? (i := 17) rfl) rfl
theorem aM_X8_152 : Cond.methodLink RX8 152 yX8_row ∈ AW := in_t6 (List.mem_of_getElem? (i := 18) rfl) rfl
theorem aI_X8_row : Cond.instanceMethod yX8_row ∈ AW := in_t6 (List.mem_of_getElem? (i := 20) rfl) rfl
theorem aC_X8_row : Cond.code yX8_row cX8_row 5 (some .int) ∈ AW := in_t6 (List.mem_of_getElem? (i := 21) rfl) rfl
theorem aM_X8_165 : Cond.methodLink RX8 165 yX8_plain ∈ AW := in_t6 (List.mem_of_getElem? (i := 22) rfl) rfl
theorem aI_X8_plain : Cond.instanceMethod yX8_plain ∈ AW := in_t6 (List.mem_of_getElem? (i := 24) rfl) rfl
theorem aC_X8_plain : Cond.code yX8_plain cX8_plain 4 (some .int) ∈ AW := in_t6 (List.mem_of_getElem? (i := 25) rfl) rfl
theorem aM_X8_162 : Cond.methodLink RX8 162 yX8_part ∈ AW := in_t6 (List.mem_of_getElem? (i := 26) rfl) rfl
theorem aI_X8_part : Cond.instanceMethod yX8_part ∈ AW := in_t6 (List.mem_of_getElem? (i := 28) rfl) rfl
theorem aC_X8_part : Cond.code yX8_part cX8_part 4 (some .int) ∈ AW := in_t6 (List.mem_of_getElem? (i := 29) rfl) rfl
theorem aM_X8_155 : Cond.methodLink RX8 155 yX8_takes ∈ AW := in_t6 (List.mem_of_getElem? (i := 30) rfl) rfl
theorem aI_X8_takes : Cond.instanceMethod yX8_takes ∈ AW := in_t6 (List.mem_of_getElem? (i := 32) rfl) rfl
theorem aC_X8_takes : Cond.code yX8_takes cX8_takes 2 (some .boolean) ∈ AW := in_t6 (List.mem_of_getElem? (i := 33) rfl) rfl
theorem aM_X8_168 : Cond.methodLink RX8 168 yX8_known ∈ AW := in_t6 (List.mem_of_getElem? (i := 34) rfl) rfl
theorem aI_X8_known : Cond.instanceMethod yX8_known ∈ AW := in_t6 (List.mem_of_getElem? (i := 36) rfl) rfl
theorem aC_X8_known : Cond.code yX8_known cX8_known 7 (some .int) ∈ AW := in_t6 (List.mem_of_getElem? (i := 37) rfl) rfl
theorem aM_X8_123 : Cond.methodLink RX8 123 yX8_find ∈ AW := in_t6 (List.mem_of_getElem? (i := 38) rfl) rfl
theorem aI_X8_find : Cond.instanceMethod yX8_find ∈ AW := in_t6 (List.mem_of_getElem? (i := 40) rfl) rfl
theorem aC_X8_find : Cond.code yX8_find cX8_find 5 (some .int) ∈ AW := in_t6 (List.mem_of_getElem? (i := 41) rfl) rfl
theorem aK_X8_127 : Cond.constant RX8 127 (1000000) ∈ AW := in_t6 (List.mem_of_getElem? (i := 42) rfl) rfl
theorem aM_X8_128 : Cond.methodLink RX8 128 yJ9_min_7cf53 ∈ AW := in_t6 (List.mem_of_getElem? (i := 43) rfl) rfl
theorem aM_X8_134 : Cond.methodLink RX8 134 yX8_isTrueAt ∈ AW := in_t6 (List.mem_of_getElem? (i := 44) rfl) rfl
theorem aI_X8_isTrueAt : Cond.instanceMethod yX8_isTrueAt ∈ AW := in_t6 (List.mem_of_getElem? (i := 46) rfl) rfl
theorem aC_X8_isTrueAt : Cond.code yX8_isTrueAt cX8_isTrueAt 3 (some .boolean) ∈ AW := in_t6 (List.mem_of_getElem? (i := 47) rfl) rfl
theorem aM_X8_138 : Cond.methodLink RX8 138 yX8_told ∈ AW := in_t6 (List.mem_of_getElem? (i := 48) rfl) rfl
theorem aT_X8_told : Cond.static yX8_told ∈ AW := in_t6 (List.mem_of_getElem? (i := 49) rfl) rfl
theorem aC_X8_told : Cond.code yX8_told cX8_told 3 (some .boolean) ∈ AW := in_t6 (List.mem_of_getElem? (i := 50) rfl) rfl
theorem aM_L_105 : Cond.methodLink RL 105 yX8_errorAt ∈ AW := in_t6 (List.mem_of_getElem? (i := 51) rfl) rfl
theorem aI_X8_errorAt : Cond.instanceMethod yX8_errorAt ∈ AW := in_t6 (List.mem_of_getElem? (i := 52) rfl) rfl
theorem aS_X8_errorAt : Cond.selects RX8 yX8_errorAt yX8_errorAt ∈ AW := in_t6 (List.mem_of_getElem? (i := 53) rfl) rfl
theorem aC_X8_errorAt : Cond.code yX8_errorAt cX8_errorAt 1 (some .int) ∈ AW := in_t6 (List.mem_of_getElem? (i := 54) rfl) rfl
theorem aM_L_109 : Cond.methodLink RL 109 yX8_make ∈ AW := in_t6 (List.mem_of_getElem? (i := 55) rfl) rfl
theorem aI_X8_make : Cond.instanceMethod yX8_make ∈ AW := in_t6 (List.mem_of_getElem? (i := 56) rfl) rfl
theorem aS_X8_make : Cond.selects RX8 yX8_make yX8_make ∈ AW := in_t6 (List.mem_of_getElem? (i := 57) rfl) rfl
theorem aC_X8_make : Cond.code yX8_make cX8_make 5 (some .int) ∈ AW := in_t6 (List.mem_of_getElem? (i := 58) rfl) rfl
theorem aM_X8_171 : Cond.methodLink RX8 171 yX8_isFormula ∈ AW := in_t6 (List.mem_of_getElem? (i := 59) rfl) rfl
theorem aI_X8_isFormula : Cond.instanceMethod yX8_isFormula ∈ AW := in_t6 (List.mem_of_getElem? (i := 61) rfl) rfl
theorem aC_X8_isFormula : Cond.code yX8_isFormula cX8_isFormula 2 (some .boolean) ∈ AW := in_t6 (List.mem_of_getElem? (i := 62) rfl) rfl
theorem aM_L_113 : Cond.methodLink RL 113 yX8_formula ∈ AW := in_t6 (List.mem_of_getElem? (i := 63) rfl) rfl
theorem aI_X8_formula : Cond.instanceMethod yX8_formula ∈ AW := in_t6 (List.mem_of_getElem? (i := 64) rfl) rfl
theorem aS_X8_formula : Cond.selects RX8 yX8_formula yX8_formula ∈ AW := in_t6 (List.mem_of_getElem? (i := 65) rfl) rfl
theorem aC_X8_formula : Cond.code yX8_formula cX8_formula 3 (some .int) ∈ AW := in_t6 (List.mem_of_getElem? (i := 66) rfl) rfl
theorem aM_X8_177 : Cond.methodLink RX8 177 yX8_formulaTold ∈ AW := in_t6 (List.mem_of_getElem? (i := 67) rfl) rfl
theorem aI_X8_formulaTold : Cond.instanceMethod yX8_formulaTold ∈ AW := in_t6 (List.mem_of_getElem? (i := 69) rfl) rfl
theorem aC_X8_formulaTold : Cond.code yX8_formulaTold cX8_formulaTold 3 (some .int) ∈ AW := in_t6 (List.mem_of_getElem? (i := 70) rfl) rfl
theorem aM_X8_174 : Cond.methodLink RX8 174 yX8_trueFor ∈ AW := in_t6 (List.mem_of_getElem? (i := 71) rfl) rfl
theorem aI_X8_trueFor : Cond.instanceMethod yX8_trueFor ∈ AW := in_t6 (List.mem_of_getElem? (i := 73) rfl) rfl
theorem aC_X8_trueFor : Cond.code yX8_trueFor cX8_trueFor 4 (some .int) ∈ AW := in_t6 (List.mem_of_getElem? (i := 74) rfl) rfl
theorem aM_L_116 : Cond.methodLink RL 116 yX8_isTrue ∈ AW := in_t6 (List.mem_of_getElem? (i := 75) rfl) rfl
theorem aI_X8_isTrue : Cond.instanceMethod yX8_isTrue ∈ AW := in_t6 (List.mem_of_getElem? (i := 76) rfl) rfl
theorem aS_X8_isTrue : Cond.selects RX8 yX8_isTrue yX8_isTrue ∈ AW := in_t6 (List.mem_of_getElem? (i := 77) rfl) rfl
theorem aC_X8_isTrue : Cond.code yX8_isTrue cX8_isTrue 3 (some .boolean) ∈ AW := in_t6 (List.mem_of_getElem? (i := 78) rfl) rfl
theorem aM_L_119 : Cond.methodLink RL 119 yX8_write ∈ AW := in_t6 (List.mem_of_getElem? (i := 79) rfl) rfl
theorem aI_X8_write : Cond.instanceMethod yX8_write ∈ AW := in_t6 (List.mem_of_getElem? (i := 80) rfl) rfl
theorem aS_X8_write : Cond.selects RX8 yX8_write yX8_write ∈ AW := in_t6 (List.mem_of_getElem? (i := 81) rfl) rfl
theorem aC_X8_write : Cond.code yX8_write cX8_write 2 (some .int) ∈ AW := in_t6 (List.mem_of_getElem? (i := 82) rfl) rfl
theorem aM_X8_187 : Cond.methodLink RX8 187 yX8_put_ ∈ AW := in_t6 (List.mem_of_getElem? (i := 83) rfl) rfl
theorem aI_X8_put_ : Cond.instanceMethod yX8_put_ ∈ AW := in_t6 (List.mem_of_getElem? (i := 85) rfl) rfl
theorem aC_X8_put_ : Cond.code yX8_put_ cX8_put_ 5 none ∈ AW := in_t6 (List.mem_of_getElem? (i := 86) rfl) rfl
theorem aM_X8_183 : Cond.methodLink RX8 183 yX8_put ∈ AW := in_t6 (List.mem_of_getElem? (i := 87) rfl) rfl
theorem aI_X8_put : Cond.instanceMethod yX8_put ∈ AW := in_t6 (List.mem_of_getElem? (i := 89) rfl) rfl
theorem aC_X8_put : Cond.code yX8_put cX8_put 2 none ∈ AW := in_t6 (List.mem_of_getElem? (i := 90) rfl) rfl
theorem aM_X8_190 : Cond.methodLink RX8 190 arraycopyName ∈ AW := in_t6 (List.mem_of_getElem? (i := 91) rfl) rfl
theorem aT_arraycopy : Cond.static arraycopyName ∈ AW := in_t6 (List.mem_of_getElem? (i := 92) rfl) rfl
theorem aV_arraycopy : Cond.native arraycopyName ∈ AW := in_t6 (List.mem_of_getElem? (i := 93) rfl) rfl
theorem aM_L_122 : Cond.methodLink RL 122 yX8_byteAt ∈ AW := in_t6 (List.mem_of_getElem? (i := 94) rfl) rfl
theorem aI_X8_byteAt : Cond.instanceMethod yX8_byteAt ∈ AW := in_t6 (List.mem_of_getElem? (i := 95) rfl) rfl
theorem aS_X8_byteAt : Cond.selects RX8 yX8_byteAt yX8_byteAt ∈ AW := in_t6 (List.mem_of_getElem? (i := 96) rfl) rfl
theorem aC_X8_byteAt : Cond.code yX8_byteAt cX8_byteAt 2 (some .int) ∈ AW := in_t6 (List.mem_of_getElem? (i := 97) rfl) rfl
theorem aM_L_126 : Cond.methodLink RL 126 yX8_begin ∈ AW := in_t6 (List.mem_of_getElem? (i := 98) rfl) rfl
theorem aI_X8_begin : Cond.instanceMethod yX8_begin ∈ AW := in_t6 (List.mem_of_getElem? (i := 99) rfl) rfl
theorem aS_X8_begin : Cond.selects RX8 yX8_begin yX8_begin ∈ AW := in_t6 (List.mem_of_getElem? (i := 100) rfl) rfl
theorem aC_X8_begin : Cond.code yX8_begin cX8_begin 1 (some .int) ∈ AW := in_t6 (List.mem_of_getElem? (i := 101) rfl) rfl
theorem aM_X8_208 : Cond.methodLink RX8 208 yX8_clear ∈ AW := in_t6 (List.mem_of_getElem? (i := 102) rfl) rfl
theorem aI_X8_clear : Cond.instanceMethod yX8_clear ∈ AW := in_t6 (List.mem_of_getElem? (i := 104) rfl) rfl
theorem aC_X8_clear : Cond.code yX8_clear cX8_clear 2 (some .int) ∈ AW := in_t6 (List.mem_of_getElem? (i := 105) rfl) rfl
theorem aM_L_129 : Cond.methodLink RL 129 yX8_premise ∈ AW := in_t6 (List.mem_of_getElem? (i := 106) rfl) rfl
theorem aI_X8_premise : Cond.instanceMethod yX8_premise ∈ AW := in_t6 (List.mem_of_getElem? (i := 107) rfl) rfl
theorem aS_X8_premise : Cond.selects RX8 yX8_premise yX8_premise ∈ AW := in_t6 (List.mem_of_getElem? (i := 108) rfl) rfl
theorem aC_X8_premise : Cond.code yX8_premise cX8_premise 2 (some .int) ∈ AW := in_t6 (List.mem_of_getElem? (i := 109) rfl) rfl
theorem aM_X8_211 : Cond.methodLink RX8 211 yX8_premisesNow ∈ AW := in_t6 (List.mem_of_getElem? (i := 110) rfl) rfl
theorem aI_X8_premisesNow : Cond.instanceMethod yX8_premisesNow ∈ AW := in_t6 (List.mem_of_getElem? (i := 112) rfl) rfl
theorem aC_X8_premisesNow : Cond.code yX8_premisesNow cX8_premisesNow 2 (some .int) ∈ AW := in_t6 (List.mem_of_getElem? (i := 113) rfl) rfl
theorem aM_X8_214 : Cond.methodLink RX8 214 yX8_add ∈ AW := in_t6 (List.mem_of_getElem? (i := 114) rfl) rfl
theorem aI_X8_add : Cond.instanceMethod yX8_add ∈ AW := in_t6 (List.mem_of_getElem? (i := 116) rfl) rfl
theorem aC_X8_add : Cond.code yX8_add cX8_add 6 (some .int) ∈ AW := in_t6 (List.mem_of_getElem? (i := 117) rfl) rfl
theorem aM_L_132 : Cond.methodLink RL 132 yX8_assume ∈ AW := in_t6 (List.mem_of_getElem? (i := 118) rfl) rfl
theorem aI_X8_assume : Cond.instanceMethod yX8_assume ∈ AW := in_t6 (List.mem_of_getElem? (i := 119) rfl) rfl
theorem aS_X8_assume : Cond.selects RX8 yX8_assume yX8_assume ∈ AW := in_t6 (List.mem_of_getElem? (i := 120) rfl) rfl
theorem aC_X8_assume : Cond.code yX8_assume cX8_assume 2 (some .int) ∈ AW := in_t6 (List.mem_of_getElem? (i := 121) rfl) rfl
theorem aM_X8_218 : Cond.methodLink RX8 218 yX8_open ∈ AW := in_t6 (List.mem_of_getElem? (i := 122) rfl) rfl
theorem aI_X8_open : Cond.instanceMethod yX8_open ∈ AW := in_t6 (List.mem_of_getElem? (i := 124) rfl) rfl
theorem aC_X8_open : Cond.code yX8_open cX8_open 3 (some .int) ∈ AW := in_t6 (List.mem_of_getElem? (i := 125) rfl) rfl
theorem aM_L_136 : Cond.methodLink RL 136 yX8_close ∈ AW := in_t6 (List.mem_of_getElem? (i := 126) rfl) rfl
theorem aI_X8_close : Cond.instanceMethod yX8_close ∈ AW := in_t6 (List.mem_of_getElem? (i := 127) rfl) rfl
theorem aS_X8_close : Cond.selects RX8 yX8_close yX8_close ∈ AW := in_t6 (List.mem_of_getElem? (i := 128) rfl) rfl
theorem aC_X8_close : Cond.code yX8_close cX8_close 3 (some .int) ∈ AW := in_t6 (List.mem_of_getElem? (i := 129) rfl) rfl
theorem aM_L_139 : Cond.methodLink RL 139 yX8_step ∈ AW := in_t6 (List.mem_of_getElem? (i := 130) rfl) rfl
theorem aI_X8_step : Cond.instanceMethod yX8_step ∈ AW := in_t6 (List.mem_of_getElem? (i := 131) rfl) rfl
theorem aS_X8_step : Cond.selects RX8 yX8_step yX8_step ∈ AW := in_t6 (List.mem_of_getElem? (i := 132) rfl) rfl
theorem aC_X8_step : Cond.code yX8_step cX8_step 8 (some .int) ∈ AW := in_t6 (List.mem_of_getElem? (i := 133) rfl) rfl
theorem aM_X8_259 : Cond.methodLink RX8 259 yX8_refusal ∈ AW := in_t6 (List.mem_of_getElem? (i := 134) rfl) rfl
theorem aI_X8_refusal : Cond.instanceMethod yX8_refusal ∈ AW := in_t6 (List.mem_of_getElem? (i := 136) rfl) rfl
theorem aC_X8_refusal : Cond.code yX8_refusal cX8_refusal 12 (some .int) ∈ AW := in_t6 (List.mem_of_getElem? (i := 137) rfl) rfl
theorem aM_X8_239 : Cond.methodLink RX8 239 yX8_needs ∈ AW := in_t6 (List.mem_of_getElem? (i := 138) rfl) rfl
theorem aI_X8_needs : Cond.instanceMethod yX8_needs ∈ AW := in_t6 (List.mem_of_getElem? (i := 140) rfl) rfl
theorem aC_X8_needs : Cond.code yX8_needs cX8_needs 3 (some .int) ∈ AW := in_t6 (List.mem_of_getElem? (i := 141) rfl) rfl
theorem aF_X8_224 : Cond.fieldLink RX8 224 "ProofDeskModel" "NEEDS" "[I" ∈ AW := in_t6 (List.mem_of_getElem? (i := 142) rfl) rfl
theorem aM_X8_242 : Cond.methodLink RX8 242 yX8_isReference ∈ AW := in_t6 (List.mem_of_getElem? (i := 144) rfl) rfl
theorem aI_X8_isReference : Cond.instanceMethod yX8_isReference ∈ AW := in_t6 (List.mem_of_getElem? (i := 146) rfl) rfl
theorem aC_X8_isReference : Cond.code yX8_isReference cX8_isReference 3 (some .boolean) ∈ AW := in_t6 (List.mem_of_getElem? (i := 147) rfl) rfl
theorem aM_X8_230 : Cond.methodLink RX8 230 yX8_isLine ∈ AW := in_t6 (List.mem_of_getElem? (i := 148) rfl) rfl
theorem aI_X8_isLine : Cond.instanceMethod yX8_isLine ∈ AW := in_t6 (List.mem_of_getElem? (i := 150) rfl) rfl
theorem aC_X8_isLine : Cond.code yX8_isLine cX8_isLine 2 (some .boolean) ∈ AW := in_t6 (List.mem_of_getElem? (i := 151) rfl) rfl
theorem aM_X8_221 : Cond.methodLink RX8 221 yX8_areOpen ∈ AW := in_t6 (List.mem_of_getElem? (i := 152) rfl) rfl
theorem aI_X8_areOpen : Cond.instanceMethod yX8_areOpen ∈ AW := in_t6 (List.mem_of_getElem? (i := 154) rfl) rfl
theorem aC_X8_areOpen : Cond.code yX8_areOpen cX8_areOpen 3 (some .boolean) ∈ AW := in_t6 (List.mem_of_getElem? (i := 155) rfl) rfl
theorem aM_X8_233 : Cond.methodLink RX8 233 yX8_isBox ∈ AW := in_t6 (List.mem_of_getElem? (i := 156) rfl) rfl
theorem aI_X8_isBox : Cond.instanceMethod yX8_isBox ∈ AW := in_t6 (List.mem_of_getElem? (i := 158) rfl) rfl
theorem aC_X8_isBox : Cond.code yX8_isBox cX8_isBox 2 (some .boolean) ∈ AW := in_t6 (List.mem_of_getElem? (i := 159) rfl) rfl
theorem aM_X8_245 : Cond.methodLink RX8 245 yX8_theoremGives ∈ AW := in_t6 (List.mem_of_getElem? (i := 160) rfl) rfl
theorem aI_X8_theoremGives : Cond.instanceMethod yX8_theoremGives ∈ AW := in_t6 (List.mem_of_getElem? (i := 162) rfl) rfl
theorem aC_X8_theoremGives : Cond.code yX8_theoremGives cX8_theoremGives 6 (some .boolean) ∈ AW := in_t6 (List.mem_of_getElem? (i := 163) rfl) rfl
theorem aM_X8_256 : Cond.methodLink RX8 256 yX8_clearStands ∈ AW := in_t6 (List.mem_of_getElem? (i := 164) rfl) rfl
theorem aI_X8_clearStands : Cond.instanceMethod yX8_clearStands ∈ AW := in_t6 (List.mem_of_getElem? (i := 166) rfl) rfl
theorem aC_X8_clearStands : Cond.code yX8_clearStands cX8_clearStands 2 none ∈ AW := in_t6 (List.mem_of_getElem? (i := 167) rfl) rfl
theorem aM_X8_236 : Cond.methodLink RX8 236 yX8_becomes ∈ AW := in_t6 (List.mem_of_getElem? (i := 168) rfl) rfl
theorem aI_X8_becomes : Cond.instanceMethod yX8_becomes ∈ AW := in_t6 (List.mem_of_getElem? (i := 170) rfl) rfl
theorem aC_X8_becomes : Cond.code yX8_becomes cX8_becomes 4 (some .boolean) ∈ AW := in_t6 (List.mem_of_getElem? (i := 171) rfl) rfl
theorem aM_X8_249 : Cond.methodLink RX8 249 yX8_gives ∈ AW := in_t6 (List.mem_of_getElem? (i := 172) rfl) rfl
theorem aI_X8_gives : Cond.instanceMethod yX8_gives ∈ AW := in_t6 (List.mem_of_getElem? (i := 174) rfl) rfl
theorem aC_X8_gives : Cond.code yX8_gives cX8_gives 8 (some .boolean) ∈ AW := in_t6 (List.mem_of_getElem? (i := 175) rfl) rfl
theorem aM_X8_253 : Cond.methodLink RX8 253 yX8_isMade ∈ AW := in_t6 (List.mem_of_getElem? (i := 176) rfl) rfl
theorem aI_X8_isMade : Cond.instanceMethod yX8_isMade ∈ AW := in_t6 (List.mem_of_getElem? (i := 178) rfl) rfl
theorem aC_X8_isMade : Cond.code yX8_isMade cX8_isMade 5 (some .boolean) ∈ AW := in_t6 (List.mem_of_getElem? (i := 179) rfl) rfl
theorem aM_L_142 : Cond.methodLink RL 142 yX8_undo ∈ AW := in_t6 (List.mem_of_getElem? (i := 180) rfl) rfl
theorem aI_X8_undo : Cond.instanceMethod yX8_undo ∈ AW := in_t6 (List.mem_of_getElem? (i := 181) rfl) rfl
theorem aS_X8_undo : Cond.selects RX8 yX8_undo yX8_undo ∈ AW := in_t6 (List.mem_of_getElem? (i := 182) rfl) rfl
theorem aC_X8_undo : Cond.code yX8_undo cX8_undo 3 (some .int) ∈ AW := in_t6 (List.mem_of_getElem? (i := 183) rfl) rfl
theorem aM_L_145 : Cond.methodLink RL 145 yX8_count ∈ AW := in_t6 (List.mem_of_getElem? (i := 184) rfl) rfl
theorem aI_X8_count : Cond.instanceMethod yX8_count ∈ AW := in_t6 (List.mem_of_getElem? (i := 185) rfl) rfl
theorem aS_X8_count : Cond.selects RX8 yX8_count yX8_count ∈ AW := in_t6 (List.mem_of_getElem? (i := 186) rfl) rfl
theorem aC_X8_count : Cond.code yX8_count cX8_count 2 (some .int) ∈ AW := in_t6 (List.mem_of_getElem? (i := 187) rfl) rfl
theorem aM_X8_268 : Cond.methodLink RX8 268 yX8_counted ∈ AW := in_t6 (List.mem_of_getElem? (i := 188) rfl) rfl
theorem aI_X8_counted : Cond.instanceMethod yX8_counted ∈ AW := in_t6 (List.mem_of_getElem? (i := 190) rfl) rfl
theorem aC_X8_counted : Cond.code yX8_counted cX8_counted 3 (some .int) ∈ AW := in_t6 (List.mem_of_getElem? (i := 191) rfl) rfl
theorem aM_X8_265 : Cond.methodLink RX8 265 yX8_look ∈ AW := in_t6 (List.mem_of_getElem? (i := 192) rfl) rfl
theorem aI_X8_look : Cond.instanceMethod yX8_look ∈ AW := in_t6 (List.mem_of_getElem? (i := 194) rfl) rfl
theorem aC_X8_look : Cond.code yX8_look cX8_look 4 (some .int) ∈ AW := in_t6 (List.mem_of_getElem? (i := 195) rfl) rfl
theorem aM_X8_262 : Cond.methodLink RX8 262 yX8_need ∈ AW := in_t6 (List.mem_of_getElem? (i := 196) rfl) rfl
theorem aI_X8_need : Cond.instanceMethod yX8_need ∈ AW := in_t6 (List.mem_of_getElem? (i := 198) rfl) rfl
theorem aC_X8_need : Cond.code yX8_need cX8_need 3 none ∈ AW := in_t6 (List.mem_of_getElem? (i := 199) rfl) rfl
theorem aM_L_148 : Cond.methodLink RL 148 yX8_line ∈ AW := in_t6 (List.mem_of_getElem? (i := 200) rfl) rfl
theorem aI_X8_line : Cond.instanceMethod yX8_line ∈ AW := in_t6 (List.mem_of_getElem? (i := 201) rfl) rfl
theorem aS_X8_line : Cond.selects RX8 yX8_line yX8_line ∈ AW := in_t6 (List.mem_of_getElem? (i := 202) rfl) rfl
theorem aC_X8_line : Cond.code yX8_line cX8_line 3 (some .int) ∈ AW := in_t6 (List.mem_of_getElem? (i := 203) rfl) rfl
theorem aM_X8_271 : Cond.methodLink RX8 271 yX8_lineTold ∈ AW := in_t6 (List.mem_of_getElem? (i := 204) rfl) rfl
theorem aI_X8_lineTold : Cond.instanceMethod yX8_lineTold ∈ AW := in_t6 (List.mem_of_getElem? (i := 206) rfl) rfl
theorem aC_X8_lineTold : Cond.code yX8_lineTold cX8_lineTold 3 (some .int) ∈ AW := in_t6 (List.mem_of_getElem? (i := 207) rfl) rfl
theorem aM_L_151 : Cond.methodLink RL 151 yX8_box ∈ AW := in_t6 (List.mem_of_getElem? (i := 208) rfl) rfl
theorem aI_X8_box : Cond.instanceMethod yX8_box ∈ AW := in_t6 (List.mem_of_getElem? (i := 209) rfl) rfl
theorem aS_X8_box : Cond.selects RX8 yX8_box yX8_box ∈ AW := in_t6 (List.mem_of_getElem? (i := 210) rfl) rfl
theorem aC_X8_box : Cond.code yX8_box cX8_box 3 (some .int) ∈ AW := in_t6 (List.mem_of_getElem? (i := 211) rfl) rfl
theorem aM_X8_274 : Cond.methodLink RX8 274 yX8_boxTold ∈ AW := in_t6 (List.mem_of_getElem? (i := 212) rfl) rfl
theorem aI_X8_boxTold : Cond.instanceMethod yX8_boxTold ∈ AW := in_t6 (List.mem_of_getElem? (i := 214) rfl) rfl
theorem aC_X8_boxTold : Cond.code yX8_boxTold cX8_boxTold 3 (some .int) ∈ AW := in_t6 (List.mem_of_getElem? (i := 215) rfl) rfl
theorem aM_L_154 : Cond.methodLink RL 154 yX8_fails ∈ AW := in_t6 (List.mem_of_getElem? (i := 216) rfl) rfl
theorem aI_X8_fails : Cond.instanceMethod yX8_fails ∈ AW := in_t6 (List.mem_of_getElem? (i := 217) rfl) rfl
theorem aS_X8_fails : Cond.selects RX8 yX8_fails yX8_fails ∈ AW := in_t6 (List.mem_of_getElem? (i := 218) rfl) rfl
theorem aC_X8_fails : Cond.code yX8_fails cX8_fails 7 (some .int) ∈ AW := in_t6 (List.mem_of_getElem? (i := 219) rfl) rfl
theorem aM_L_157 : Cond.methodLink RL 157 yX8_hint ∈ AW := in_t6 (List.mem_of_getElem? (i := 220) rfl) rfl
theorem aI_X8_hint : Cond.instanceMethod yX8_hint ∈ AW := in_t6 (List.mem_of_getElem? (i := 221) rfl) rfl
theorem aS_X8_hint : Cond.selects RX8 yX8_hint yX8_hint ∈ AW := in_t6 (List.mem_of_getElem? (i := 222) rfl) rfl
theorem aC_X8_hint : Cond.code yX8_hint cX8_hint 3 (some .int) ∈ AW := in_t6 (List.mem_of_getElem? (i := 223) rfl) rfl
theorem aM_X8_280 : Cond.methodLink RX8 280 yX8_findHint ∈ AW := in_t6 (List.mem_of_getElem? (i := 224) rfl) rfl
theorem aI_X8_findHint : Cond.instanceMethod yX8_findHint ∈ AW := in_t6 (List.mem_of_getElem? (i := 226) rfl) rfl
theorem aC_X8_findHint : Cond.code yX8_findHint cX8_findHint 7 (some .boolean) ∈ AW := in_t6 (List.mem_of_getElem? (i := 227) rfl) rfl
theorem aM_X8_277 : Cond.methodLink RX8 277 yX8_reach ∈ AW := in_t6 (List.mem_of_getElem? (i := 228) rfl) rfl
theorem aI_X8_reach : Cond.instanceMethod yX8_reach ∈ AW := in_t6 (List.mem_of_getElem? (i := 230) rfl) rfl
theorem aC_X8_reach : Cond.code yX8_reach cX8_reach 2 (some .int) ∈ AW := in_t6 (List.mem_of_getElem? (i := 231) rfl) rfl
theorem aM_L_160 : Cond.methodLink RL 160 yX8_end ∈ AW := in_t6 (List.mem_of_getElem? (i := 232) rfl) rfl
theorem aI_X8_end : Cond.instanceMethod yX8_end ∈ AW := in_t6 (List.mem_of_getElem? (i := 233) rfl) rfl
theorem aS_X8_end : Cond.selects RX8 yX8_end yX8_end ∈ AW := in_t6 (List.mem_of_getElem? (i := 234) rfl) rfl
theorem aC_X8_end : Cond.code yX8_end cX8_end 3 (some .int) ∈ AW := in_t6 (List.mem_of_getElem? (i := 235) rfl) rfl
theorem aM_L_163 : Cond.methodLink RL 163 yX8_theorem ∈ AW := in_t6 (List.mem_of_getElem? (i := 236) rfl) rfl
theorem aI_X8_theorem : Cond.instanceMethod yX8_theorem ∈ AW := in_t6 (List.mem_of_getElem? (i := 237) rfl) rfl
theorem aS_X8_theorem : Cond.selects RX8 yX8_theorem yX8_theorem ∈ AW := in_t6 (List.mem_of_getElem? (i := 238) rfl) rfl
theorem aC_X8_theorem : Cond.code yX8_theorem cX8_theorem 3 (some .int) ∈ AW := in_t6 (List.mem_of_getElem? (i := 239) rfl) rfl
theorem aM_X8_283 : Cond.methodLink RX8 283 yX8_isTheorem ∈ AW := in_t7 (List.mem_of_getElem? (i := 0) rfl) rfl
theorem aI_X8_isTheorem : Cond.instanceMethod yX8_isTheorem ∈ AW := in_t7 (List.mem_of_getElem? (i := 2) rfl) rfl
theorem aC_X8_isTheorem : Cond.code yX8_isTheorem cX8_isTheorem 2 (some .boolean) ∈ AW := in_t7 (List.mem_of_getElem? (i := 3) rfl) rfl
theorem aM_X8_286 : Cond.methodLink RX8 286 yX8_theoremTold ∈ AW := in_t7 (List.mem_of_getElem? (i := 4) rfl) rfl
theorem aI_X8_theoremTold : Cond.instanceMethod yX8_theoremTold ∈ AW := in_t7 (List.mem_of_getElem? (i := 6) rfl) rfl
theorem aC_X8_theoremTold : Cond.code yX8_theoremTold cX8_theoremTold 4 (some .int) ∈ AW := in_t7 (List.mem_of_getElem? (i := 7) rfl) rfl
theorem aM_L_166 : Cond.methodLink RL 166 yX8_instance ∈ AW := in_t7 (List.mem_of_getElem? (i := 8) rfl) rfl
theorem aI_X8_instance : Cond.instanceMethod yX8_instance ∈ AW := in_t7 (List.mem_of_getElem? (i := 9) rfl) rfl
theorem aS_X8_instance : Cond.selects RX8 yX8_instance yX8_instance ∈ AW := in_t7 (List.mem_of_getElem? (i := 10) rfl) rfl
theorem aC_X8_instance : Cond.code yX8_instance cX8_instance 4 (some .int) ∈ AW := in_t7 (List.mem_of_getElem? (i := 11) rfl) rfl
theorem aM_L_171 : Cond.methodLink RL 171 yX8_thrift ∈ AW := in_t7 (List.mem_of_getElem? (i := 12) rfl) rfl
theorem aI_X8_thrift : Cond.instanceMethod yX8_thrift ∈ AW := in_t7 (List.mem_of_getElem? (i := 13) rfl) rfl
theorem aS_X8_thrift : Cond.selects RX8 yX8_thrift yX8_thrift ∈ AW := in_t7 (List.mem_of_getElem? (i := 14) rfl) rfl
theorem aC_X8_thrift : Cond.code yX8_thrift cX8_thrift 4 (some .double) ∈ AW := in_t7 (List.mem_of_getElem? (i := 15) rfl) rfl
theorem aM_L_176 : Cond.methodLink RL 176 yX8_digest ∈ AW := in_t7 (List.mem_of_getElem? (i := 16) rfl) rfl
theorem aI_X8_digest : Cond.instanceMethod yX8_digest ∈ AW := in_t7 (List.mem_of_getElem? (i := 17) rfl) rfl
theorem aS_X8_digest : Cond.selects RX8 yX8_digest yX8_digest ∈ AW := in_t7 (List.mem_of_getElem? (i := 18) rfl) rfl
theorem aC_X8_digest : Cond.code yX8_digest cX8_digest 5 (some .long) ∈ AW := in_t7 (List.mem_of_getElem? (i := 19) rfl) rfl
theorem aK_X8_289 : Cond.constantLong RX8 289 (419) ∈ AW := in_t7 (List.mem_of_getElem? (i := 20) rfl) rfl
theorem aK_X8_291 : Cond.constantLong RX8 291 (31) ∈ AW := in_t7 (List.mem_of_getElem? (i := 21) rfl) rfl
theorem aS_X5_form : Cond.selects RX5 yX5_form yX5_form ∈ AW := in_s1 (q := (yX5_form, 5)) (List.mem_of_getElem? (i := 0) rfl) rfl
theorem aS_X5_both : Cond.selects RX5 yX5_both yX5_both ∈ AW := in_s1 (q := (yX5_both, 5)) (List.mem_of_getElem? (i := 1) rfl) rfl
theorem aS_X5_plain : Cond.selects RX5 yX5_plain yX5_plain ∈ AW := in_s1 (q := (yX5_plain, 5)) (List.mem_of_getElem? (i := 2) rfl) rfl
theorem aS_X5_next : Cond.selects RX5 yX5_next yX5_next ∈ AW := in_s1 (q := (yX5_next, 5)) (List.mem_of_getElem? (i := 3) rfl) rfl
theorem aS_X5_fail : Cond.selects RX5 yX5_fail yX5_fail ∈ AW := in_s1 (q := (yX5_fail, 5)) (List.mem_of_getElem? (i := 4) rfl) rfl
theorem aS_X1_add : Cond.selects RX1 yX1_add yX1_add ∈ AW := in_s1 (q := (yX1_add, 8)) (List.mem_of_getElem? (i := 5) rfl) rfl
theorem aS_X5_takes : Cond.selects RX5 yX5_takes yX5_takes ∈ AW := in_s1 (q := (yX5_takes, 5)) (List.mem_of_getElem? (i := 6) rfl) rfl
theorem aS_X3_markReferences : Cond.selects RX3 yX3_markReferences yX3_markReferences ∈ AW := in_s1 (q := (yX3_markReferences, 12)) (List.mem_of_getElem? (i := 7) rfl) rfl
theorem aS_X3_mark : Cond.selects RX3 yX3_mark yX3_mark ∈ AW := in_s1 (q := (yX3_mark, 12)) (List.mem_of_getElem? (i := 8) rfl) rfl
theorem aS_X7_withFormulas : Cond.selects RX7 yX7_withFormulas yX7_withFormulas ∈ AW := in_s1 (q := (yX7_withFormulas, 6)) (List.mem_of_getElem? (i := 10) rfl) rfl
theorem aS_X7_withProof : Cond.selects RX7 yX7_withProof yX7_withProof ∈ AW := in_s1 (q := (yX7_withProof, 6)) (List.mem_of_getElem? (i := 11) rfl) rfl
theorem aS_X7_withTheorems : Cond.selects RX7 yX7_withTheorems yX7_withTheorems ∈ AW := in_s1 (q := (yX7_withTheorems, 6)) (List.mem_of_getElem? (i := 12) rfl) rfl
theorem aS_X2_addWaiting : Cond.selects RX2 yX2_addWaiting yX2_addWaiting ∈ AW := in_s1 (q := (yX2_addWaiting, 6)) (List.mem_of_getElem? (i := 13) rfl) rfl
theorem aS_X2_putOne : Cond.selects RX2 yX2_putOne yX2_putOne ∈ AW := in_s1 (q := (yX2_putOne, 6)) (List.mem_of_getElem? (i := 14) rfl) rfl
theorem aS_X2_set : Cond.selects RX2 yX2_set yX2_set ∈ AW := in_s1 (q := (yX2_set, 6)) (List.mem_of_getElem? (i := 15) rfl) rfl
theorem aS_X2_putPart : Cond.selects RX2 yX2_putPart yX2_putPart ∈ AW := in_s2 (q := (yX2_putPart, 6)) (List.mem_of_getElem? (i := 0) rfl) rfl
theorem aS_X3_refer : Cond.selects RX3 yX3_refer yX3_refer ∈ AW := in_s2 (q := (yX3_refer, 12)) (List.mem_of_getElem? (i := 1) rfl) rfl
theorem aS_X3_noteDeed : Cond.selects RX3 yX3_noteDeed yX3_noteDeed ∈ AW := in_s2 (q := (yX3_noteDeed, 12)) (List.mem_of_getElem? (i := 2) rfl) rfl
theorem aS_X3_latestLineOf : Cond.selects RX3 yX3_latestLineOf yX3_latestLineOf ∈ AW := in_s2 (q := (yX3_latestLineOf, 12)) (List.mem_of_getElem? (i := 3) rfl) rfl
theorem aS_X4_reaches : Cond.selects RX4 yX4_reaches yX4_reaches ∈ AW := in_s2 (q := (yX4_reaches, 4)) (List.mem_of_getElem? (i := 4) rfl) rfl
theorem aS_X4_hasForm : Cond.selects RX4 yX4_hasForm yX4_hasForm ∈ AW := in_s2 (q := (yX4_hasForm, 4)) (List.mem_of_getElem? (i := 5) rfl) rfl
theorem aS_X4_theoremFits : Cond.selects RX4 yX4_theoremFits yX4_theoremFits ∈ AW := in_s2 (q := (yX4_theoremFits, 4)) (List.mem_of_getElem? (i := 6) rfl) rfl
theorem aS_X6_becomes : Cond.selects RX6 yX6_becomes yX6_becomes ∈ AW := in_s2 (q := (yX6_becomes, 9)) (List.mem_of_getElem? (i := 7) rfl) rfl
theorem aS_X6_partsBecome : Cond.selects RX6 yX6_partsBecome yX6_partsBecome ∈ AW := in_s2 (q := (yX6_partsBecome, 9)) (List.mem_of_getElem? (i := 8) rfl) rfl
theorem aS_X4_firstFits : Cond.selects RX4 yX4_firstFits yX4_firstFits ∈ AW := in_s2 (q := (yX4_firstFits, 4)) (List.mem_of_getElem? (i := 9) rfl) rfl
theorem aS_X4_secondFits : Cond.selects RX4 yX4_secondFits yX4_secondFits ∈ AW := in_s2 (q := (yX4_secondFits, 4)) (List.mem_of_getElem? (i := 10) rfl) rfl
theorem aS_X4_thirdFits : Cond.selects RX4 yX4_thirdFits yX4_thirdFits ∈ AW := in_s2 (q := (yX4_thirdFits, 4)) (List.mem_of_getElem? (i := 11) rfl) rfl
theorem aS_X3_failuresIn : Cond.selects RX3 yX3_failuresIn yX3_failuresIn ∈ AW := in_s2 (q := (yX3_failuresIn, 12)) (List.mem_of_getElem? (i := 12) rfl) rfl
theorem aS_X4_choices : Cond.selects RX4 yX4_choices yX4_choices ∈ AW := in_s2 (q := (yX4_choices, 4)) (List.mem_of_getElem? (i := 13) rfl) rfl
theorem aS_X4_keep : Cond.selects RX4 yX4_keep yX4_keep ∈ AW := in_s2 (q := (yX4_keep, 4)) (List.mem_of_getElem? (i := 14) rfl) rfl
theorem aS_X8_no : Cond.selects RX8 yX8_no yX8_no ∈ AW := in_s2 (q := (yX8_no, 42)) (List.mem_of_getElem? (i := 15) rfl) rfl
theorem aS_X8_form : Cond.selects RX8 yX8_form yX8_form ∈ AW := in_s3 (q := (yX8_form, 42)) (List.mem_of_getElem? (i := 0) rfl) rfl
theorem aS_X8_here : Cond.selects RX8 yX8_here yX8_here ∈ AW := in_s3 (q := (yX8_here, 42)) (List.mem_of_getElem? (i := 1) rfl) rfl
theorem aS_X8_row : Cond.selects RX8 yX8_row yX8_row ∈ AW := in_s3 (q := (yX8_row, 42)) (List.mem_of_getElem? (i := 2) rfl) rfl
theorem aS_X8_plain : Cond.selects RX8 yX8_plain yX8_plain ∈ AW := in_s3 (q := (yX8_plain, 42)) (List.mem_of_getElem? (i := 3) rfl) rfl
theorem aS_X8_part : Cond.selects RX8 yX8_part yX8_part ∈ AW := in_s3 (q := (yX8_part, 42)) (List.mem_of_getElem? (i := 4) rfl) rfl
theorem aS_X8_takes : Cond.selects RX8 yX8_takes yX8_takes ∈ AW := in_s3 (q := (yX8_takes, 42)) (List.mem_of_getElem? (i := 5) rfl) rfl
theorem aS_X8_known : Cond.selects RX8 yX8_known yX8_known ∈ AW := in_s3 (q := (yX8_known, 42)) (List.mem_of_getElem? (i := 6) rfl) rfl
theorem aS_X8_find : Cond.selects RX8 yX8_find yX8_find ∈ AW := in_s3 (q := (yX8_find, 42)) (List.mem_of_getElem? (i := 7) rfl) rfl
theorem aS_X8_isTrueAt : Cond.selects RX8 yX8_isTrueAt yX8_isTrueAt ∈ AW := in_s3 (q := (yX8_isTrueAt, 42)) (List.mem_of_getElem? (i := 8) rfl) rfl
theorem aS_X8_isFormula : Cond.selects RX8 yX8_isFormula yX8_isFormula ∈ AW := in_s3 (q := (yX8_isFormula, 42)) (List.mem_of_getElem? (i := 9) rfl) rfl
theorem aS_X8_formulaTold : Cond.selects RX8 yX8_formulaTold yX8_formulaTold ∈ AW := in_s3 (q := (yX8_formulaTold, 42)) (List.mem_of_getElem? (i := 10) rfl) rfl
theorem aS_X8_trueFor : Cond.selects RX8 yX8_trueFor yX8_trueFor ∈ AW := in_s3 (q := (yX8_trueFor, 42)) (List.mem_of_getElem? (i := 11) rfl) rfl
theorem aS_X8_put_ : Cond.selects RX8 yX8_put_ yX8_put_ ∈ AW := in_s3 (q := (yX8_put_, 42)) (List.mem_of_getElem? (i := 12) rfl) rfl
theorem aS_X8_put : Cond.selects RX8 yX8_put yX8_put ∈ AW := in_s3 (q := (yX8_put, 42)) (List.mem_of_getElem? (i := 13) rfl) rfl
theorem aS_X8_clear : Cond.selects RX8 yX8_clear yX8_clear ∈ AW := in_s3 (q := (yX8_clear, 42)) (List.mem_of_getElem? (i := 14) rfl) rfl
theorem aS_X8_premisesNow : Cond.selects RX8 yX8_premisesNow yX8_premisesNow ∈ AW := in_s3 (q := (yX8_premisesNow, 42)) (List.mem_of_getElem? (i := 15) rfl) rfl
theorem aS_X8_add : Cond.selects RX8 yX8_add yX8_add ∈ AW := in_s4 (q := (yX8_add, 42)) (List.mem_of_getElem? (i := 0) rfl) rfl
theorem aS_X8_open : Cond.selects RX8 yX8_open yX8_open ∈ AW := in_s4 (q := (yX8_open, 42)) (List.mem_of_getElem? (i := 1) rfl) rfl
theorem aS_X8_refusal : Cond.selects RX8 yX8_refusal yX8_refusal ∈ AW := in_s4 (q := (yX8_refusal, 42)) (List.mem_of_getElem? (i := 2) rfl) rfl
theorem aS_X8_needs : Cond.selects RX8 yX8_needs yX8_needs ∈ AW := in_s4 (q := (yX8_needs, 42)) (List.mem_of_getElem? (i := 3) rfl) rfl
theorem aS_X8_isReference : Cond.selects RX8 yX8_isReference yX8_isReference ∈ AW := in_s4 (q := (yX8_isReference, 42)) (List.mem_of_getElem? (i := 4) rfl) rfl
theorem aS_X8_isLine : Cond.selects RX8 yX8_isLine yX8_isLine ∈ AW := in_s4 (q := (yX8_isLine, 42)) (List.mem_of_getElem? (i := 5) rfl) rfl
theorem aS_X8_areOpen : Cond.selects RX8 yX8_areOpen yX8_areOpen ∈ AW := in_s4 (q := (yX8_areOpen, 42)) (List.mem_of_getElem? (i := 6) rfl) rfl
theorem aS_X8_isBox : Cond.selects RX8 yX8_isBox yX8_isBox ∈ AW := in_s4 (q := (yX8_isBox, 42)) (List.mem_of_getElem? (i := 7) rfl) rfl
theorem aS_X8_theoremGives : Cond.selects RX8 yX8_theoremGives yX8_theoremGives ∈ AW := in_s4 (q := (yX8_theoremGives, 42)) (List.mem_of_getElem? (i := 8) rfl) rfl
theorem aS_X8_clearStands : Cond.selects RX8 yX8_clearStands yX8_clearStands ∈ AW := in_s4 (q := (yX8_clearStands, 42)) (List.mem_of_getElem? (i := 9) rfl) rfl
theorem aS_X8_becomes : Cond.selects RX8 yX8_becomes yX8_becomes ∈ AW := in_s4 (q := (yX8_becomes, 42)) (List.mem_of_getElem? (i := 10) rfl) rfl
theorem aS_X8_gives : Cond.selects RX8 yX8_gives yX8_gives ∈ AW := in_s4 (q := (yX8_gives, 42)) (List.mem_of_getElem? (i := 11) rfl) rfl
theorem aS_X8_isMade : Cond.selects RX8 yX8_isMade yX8_isMade ∈ AW := in_s4 (q := (yX8_isMade, 42)) (List.mem_of_getElem? (i := 12) rfl) rfl
theorem aS_X8_counted : Cond.selects RX8 yX8_counted yX8_counted ∈ AW := in_s4 (q := (yX8_counted, 42)) (List.mem_of_getElem? (i := 13) rfl) rfl
theorem aS_X8_look : Cond.selects RX8 yX8_look yX8_look ∈ AW := in_s4 (q := (yX8_look, 42)) (List.mem_of_getElem? (i := 14) rfl) rfl
theorem aS_X8_need : Cond.selects RX8 yX8_need yX8_need ∈ AW := in_s4 (q := (yX8_need, 42)) (List.mem_of_getElem? (i := 15) rfl) rfl
theorem aS_X8_lineTold : Cond.selects RX8 yX8_lineTold yX8_lineTold ∈ AW := in_s5 (q := (yX8_lineTold, 42)) (List.mem_of_getElem? (i := 0) rfl) rfl
theorem aS_X8_boxTold : Cond.selects RX8 yX8_boxTold yX8_boxTold ∈ AW := in_s5 (q := (yX8_boxTold, 42)) (List.mem_of_getElem? (i := 1) rfl) rfl
theorem aS_X8_findHint : Cond.selects RX8 yX8_findHint yX8_findHint ∈ AW := in_s5 (q := (yX8_findHint, 42)) (List.mem_of_getElem? (i := 2) rfl) rfl
theorem aS_X8_reach : Cond.selects RX8 yX8_reach yX8_reach ∈ AW := in_s5 (q := (yX8_reach, 42)) (List.mem_of_getElem? (i := 3) rfl) rfl
theorem aS_X8_isTheorem : Cond.selects RX8 yX8_isTheorem yX8_isTheorem ∈ AW := in_s5 (q := (yX8_isTheorem, 42)) (List.mem_of_getElem? (i := 4) rfl) rfl
theorem aS_X8_theoremTold : Cond.selects RX8 yX8_theoremTold yX8_theoremTold ∈ AW := in_s5 (q := (yX8_theoremTold, 42)) (List.mem_of_getElem? (i := 5) rfl) rfl
theorem hwX0 : ∀ w ∈ wsX00, w ∈ AW := (List.forall_mem_cons.mpr ⟨aY_X0_firsts, List.forall_mem_cons.mpr ⟨aY_X0_lasts, List.forall_mem_cons.mpr ⟨aY_X0_outers, List.forall_mem_cons.mpr ⟨aY_X0_known, List.forall_mem_cons.mpr ⟨aY_X0_open, List.forall_mem_cons.mpr ⟨aY_X0_innermost, fun _ h => absurd h List.not_mem_nil⟩⟩⟩⟩⟩⟩ : ∀ w ∈ [Cond.laysFinal RX0 "ProofDesk$Boxes" "firsts" "[I", Cond.laysFinal RX0 "ProofDesk$Boxes" "lasts" "[I", Cond.laysFinal RX0 "ProofDesk$Boxes" "outers" "[I", Cond.lays RX0 "ProofDesk$Boxes" "known" "I", Cond.lays RX0 "ProofDesk$Boxes" "open" "I", Cond.lays RX0 "ProofDesk$Boxes" "innermost" "I"], w ∈ AW)
theorem hwX1 : ∀ w ∈ wsX10, w ∈ AW := (List.forall_mem_cons.mpr ⟨aY_X1_sorts, List.forall_mem_cons.mpr ⟨aY_X1_firsts, List.forall_mem_cons.mpr ⟨aY_X1_seconds, List.forall_mem_cons.mpr ⟨aY_X1_letterSets, List.forall_mem_cons.mpr ⟨aY_X1_sizes, List.forall_mem_cons.mpr ⟨aY_X1_widths, List.forall_mem_cons.mpr ⟨aY_X1_truths, List.forall_mem_cons.mpr ⟨aY_X1_known, fun _ h => absurd h List.not_mem_nil⟩⟩⟩⟩⟩⟩⟩⟩ : ∀ w ∈ [Cond.laysFinal RX1 "ProofDesk$Formulas" "sorts" "[I", Cond.laysFinal RX1 "ProofDesk$Formulas" "firsts" "[I", Cond.laysFinal RX1 "ProofDesk$Formulas" "seconds" "[I", Cond.laysFinal RX1 "ProofDesk$Formulas" "letterSets" "[I", Cond.laysFinal RX1 "ProofDesk$Formulas" "sizes" "[I", Cond.laysFinal RX1 "ProofDesk$Formulas" "widths" "[I", Cond.laysFinal RX1 "ProofDesk$Formulas" "truths" "[J", Cond.lays RX1 "ProofDesk$Formulas" "known" "I"], w ∈ AW)
theorem hwX2 : ∀ w ∈ wsX20, w ∈ AW := (List.forall_mem_cons.mpr ⟨aY_X2_formulas, List.forall_mem_cons.mpr ⟨aY_X2_bytes, List.forall_mem_cons.mpr ⟨aY_X2_waiting, List.forall_mem_cons.mpr ⟨aY_X2_places, List.forall_mem_cons.mpr ⟨aY_X2_waitingCount, List.forall_mem_cons.mpr ⟨aY_X2_size, fun _ h => absurd h List.not_mem_nil⟩⟩⟩⟩⟩⟩ : ∀ w ∈ [Cond.laysFinal RX2 "ProofDesk$Paper" "formulas" "LProofDesk$Formulas;", Cond.laysFinal RX2 "ProofDesk$Paper" "bytes" "[B", Cond.laysFinal RX2 "ProofDesk$Paper" "waiting" "[I", Cond.laysFinal RX2 "ProofDesk$Paper" "places" "[I", Cond.lays RX2 "ProofDesk$Paper" "waitingCount" "I", Cond.lays RX2 "ProofDesk$Paper" "size" "I"], w ∈ AW)
theorem hwX3 : ∀ w ∈ wsX30, w ∈ AW := (List.forall_mem_cons.mpr ⟨aY_X3_formulas, List.forall_mem_cons.mpr ⟨aY_X3_theorems, List.forall_mem_cons.mpr ⟨aY_X3_boxes, List.forall_mem_cons.mpr ⟨aY_X3_lineFormulas, List.forall_mem_cons.mpr ⟨aY_X3_lineRules, List.forall_mem_cons.mpr ⟨aY_X3_references, List.forall_mem_cons.mpr ⟨aY_X3_kinds, List.forall_mem_cons.mpr ⟨aY_X3_lineBoxes, List.forall_mem_cons.mpr ⟨aY_X3_needed, List.forall_mem_cons.mpr ⟨aY_X3_deeds, List.forall_mem_cons.mpr ⟨aY_X3_deedCount, List.forall_mem_cons.mpr ⟨aY_X3_lineCount, fun _ h => absurd h List.not_mem_nil⟩⟩⟩⟩⟩⟩⟩⟩⟩⟩⟩⟩ : ∀ w ∈ [Cond.laysFinal RX3 "ProofDesk$Proof" "formulas" "LProofDesk$Formulas;", Cond.laysFinal RX3 "ProofDesk$Proof" "theorems" "LProofDesk$Theorems;", Cond.laysFinal RX3 "ProofDesk$Proof" "boxes" "LProofDesk$Boxes;", Cond.laysFinal RX3 "ProofDesk$Proof" "lineFormulas" "[I", Cond.laysFinal RX3 "ProofDesk$Proof" "lineRules" "[I", Cond.laysFinal RX3 "ProofDesk$Proof" "references" "[I", Cond.laysFinal RX3 "ProofDesk$Proof" "kinds" "[I", Cond.laysFinal RX3 "ProofDesk$Proof" "lineBoxes" "[I", Cond.laysFinal RX3 "ProofDesk$Proof" "needed" "[Z", Cond.laysFinal RX3 "ProofDesk$Proof" "deeds" "[I", Cond.lays RX3 "ProofDesk$Proof" "deedCount" "I", Cond.lays RX3 "ProofDesk$Proof" "lineCount" "I"], w ∈ AW)
theorem hwX4 : ∀ w ∈ wsX40, w ∈ AW := (List.forall_mem_cons.mpr ⟨aY_X4_formulas, List.forall_mem_cons.mpr ⟨aY_X4_theorems, List.forall_mem_cons.mpr ⟨aY_X4_proof, List.forall_mem_cons.mpr ⟨aY_X4_found, fun _ h => absurd h List.not_mem_nil⟩⟩⟩⟩ : ∀ w ∈ [Cond.laysFinal RX4 "ProofDesk$Rules" "formulas" "LProofDesk$Formulas;", Cond.laysFinal RX4 "ProofDesk$Rules" "theorems" "LProofDesk$Theorems;", Cond.laysFinal RX4 "ProofDesk$Rules" "proof" "LProofDesk$Proof;", Cond.laysFinal RX4 "ProofDesk$Rules" "found" "[I"], w ∈ AW)
theorem hwX5 : ∀ w ∈ wsX50, w ∈ AW := (List.forall_mem_cons.mpr ⟨aY_X5_formulas, List.forall_mem_cons.mpr ⟨aY_X5_bytes, List.forall_mem_cons.mpr ⟨aY_X5_size, List.forall_mem_cons.mpr ⟨aY_X5_at, List.forall_mem_cons.mpr ⟨aY_X5_error, fun _ h => absurd h List.not_mem_nil⟩⟩⟩⟩⟩ : ∀ w ∈ [Cond.laysFinal RX5 "ProofDesk$Tape" "formulas" "LProofDesk$Formulas;", Cond.laysFinal RX5 "ProofDesk$Tape" "bytes" "[B", Cond.lays RX5 "ProofDesk$Tape" "size" "I", Cond.lays RX5 "ProofDesk$Tape" "at" "I", Cond.lays RX5 "ProofDesk$Tape" "error" "I"], w ∈ AW)
theorem hwX6 : ∀ w ∈ wsX60, w ∈ AW := (List.forall_mem_cons.mpr ⟨aY_X6_formulas, List.forall_mem_cons.mpr ⟨aY_X6_conclusions, List.forall_mem_cons.mpr ⟨aY_X6_firsts, List.forall_mem_cons.mpr ⟨aY_X6_seconds, List.forall_mem_cons.mpr ⟨aY_X6_lines, List.forall_mem_cons.mpr ⟨aY_X6_needed, List.forall_mem_cons.mpr ⟨aY_X6_uses, List.forall_mem_cons.mpr ⟨aY_X6_images, List.forall_mem_cons.mpr ⟨aY_X6_known, fun _ h => absurd h List.not_mem_nil⟩⟩⟩⟩⟩⟩⟩⟩⟩ : ∀ w ∈ [Cond.laysFinal RX6 "ProofDesk$Theorems" "formulas" "LProofDesk$Formulas;", Cond.laysFinal RX6 "ProofDesk$Theorems" "conclusions" "[I", Cond.laysFinal RX6 "ProofDesk$Theorems" "firsts" "[I", Cond.laysFinal RX6 "ProofDesk$Theorems" "seconds" "[I", Cond.laysFinal RX6 "ProofDesk$Theorems" "lines" "[I", Cond.laysFinal RX6 "ProofDesk$Theorems" "needed" "[I", Cond.laysFinal RX6 "ProofDesk$Theorems" "uses" "[I", Cond.laysFinal RX6 "ProofDesk$Theorems" "images" "[I", Cond.lays RX6 "ProofDesk$Theorems" "known" "I"], w ∈ AW)
theorem hwX7 : ∀ w ∈ wsX70, w ∈ AW := (List.forall_mem_cons.mpr ⟨aY_X7_formulas, List.forall_mem_cons.mpr ⟨aY_X7_tape, List.forall_mem_cons.mpr ⟨aY_X7_paper, List.forall_mem_cons.mpr ⟨aY_X7_theorems, List.forall_mem_cons.mpr ⟨aY_X7_proof, List.forall_mem_cons.mpr ⟨aY_X7_rules, fun _ h => absurd h List.not_mem_nil⟩⟩⟩⟩⟩⟩ : ∀ w ∈ [Cond.laysFinal RX7 "ProofDesk" "formulas" "LProofDesk$Formulas;", Cond.laysFinal RX7 "ProofDesk" "tape" "LProofDesk$Tape;", Cond.laysFinal RX7 "ProofDesk" "paper" "LProofDesk$Paper;", Cond.laysFinal RX7 "ProofDesk" "theorems" "LProofDesk$Theorems;", Cond.laysFinal RX7 "ProofDesk" "proof" "LProofDesk$Proof;", Cond.laysFinal RX7 "ProofDesk" "rules" "LProofDesk$Rules;"], w ∈ AW)
theorem hwX8 : ∀ w ∈ wsX80, w ∈ AW := (List.forall_mem_cons.mpr ⟨aY_X8_thrown, List.forall_mem_cons.mpr ⟨aY_X8_tape, List.forall_mem_cons.mpr ⟨aY_X8_length, List.forall_mem_cons.mpr ⟨aY_X8_errorAt, List.forall_mem_cons.mpr ⟨aY_X8_at, List.forall_mem_cons.mpr ⟨aY_X8_paper, List.forall_mem_cons.mpr ⟨aY_X8_papered, List.forall_mem_cons.mpr ⟨aY_X8_formulas, List.forall_mem_cons.mpr ⟨aY_X8_sorts, List.forall_mem_cons.mpr ⟨aY_X8_firsts, List.forall_mem_cons.mpr ⟨aY_X8_seconds, List.forall_mem_cons.mpr ⟨aY_X8_letters, List.forall_mem_cons.mpr ⟨aY_X8_sizes, List.forall_mem_cons.mpr ⟨aY_X8_truths, List.forall_mem_cons.mpr ⟨aY_X8_lines, List.forall_mem_cons.mpr ⟨aY_X8_shown, List.forall_mem_cons.mpr ⟨aY_X8_rules, List.forall_mem_cons.mpr ⟨aY_X8_references, List.forall_mem_cons.mpr ⟨aY_X8_boxOf, List.forall_mem_cons.mpr ⟨aY_X8_boxes, List.forall_mem_cons.mpr ⟨aY_X8_begins, List.forall_mem_cons.mpr ⟨aY_X8_ends, List.forall_mem_cons.mpr ⟨aY_X8_outer, List.forall_mem_cons.mpr ⟨aY_X8_inner, List.forall_mem_cons.mpr ⟨aY_X8_done, List.forall_mem_cons.mpr ⟨aY_X8_deeds, List.forall_mem_cons.mpr ⟨aY_X8_theorems, List.forall_mem_cons.mpr ⟨aY_X8_conclusions, List.forall_mem_cons.mpr ⟨aY_X8_premises, List.forall_mem_cons.mpr ⟨aY_X8_premise, List.forall_mem_cons.mpr ⟨aY_X8_proofLines, List.forall_mem_cons.mpr ⟨aY_X8_proofNeeded, List.forall_mem_cons.mpr ⟨aY_X8_uses, List.forall_mem_cons.mpr ⟨aY_X8_parts, List.forall_mem_cons.mpr ⟨aY_X8_partSorts, List.forall_mem_cons.mpr ⟨aY_X8_partA, List.forall_mem_cons.mpr ⟨aY_X8_partB, List.forall_mem_cons.mpr ⟨aY_X8_draft, List.forall_mem_cons.mpr ⟨aY_X8_drafted, List.forall_mem_cons.mpr ⟨aY_X8_stands, List.forall_mem_cons.mpr ⟨aY_X8_areNeeded, List.forall_mem_cons.mpr ⟨aY_X8_hinted, fun _ h => absurd h List.not_mem_nil⟩⟩⟩⟩⟩⟩⟩⟩⟩⟩⟩⟩⟩⟩⟩⟩⟩⟩⟩⟩⟩⟩⟩⟩⟩⟩⟩⟩⟩⟩⟩⟩⟩⟩⟩⟩⟩⟩⟩⟩⟩⟩ : ∀ w ∈ [Cond.lays RX8 "ProofDeskModel" "thrown" "I", Cond.laysFinal RX8 "ProofDeskModel" "tape" "[I", Cond.lays RX8 "ProofDeskModel" "length" "I", Cond.lays RX8 "ProofDeskModel" "errorAt" "I", Cond.lays RX8 "ProofDeskModel" "at" "I", Cond.laysFinal RX8 "ProofDeskModel" "paper" "[I", Cond.lays RX8 "ProofDeskModel" "papered" "I", Cond.lays RX8 "ProofDeskModel" "formulas" "I", Cond.laysFinal RX8 "ProofDeskModel" "sorts" "[I", Cond.laysFinal RX8 "ProofDeskModel" "firsts" "[I", Cond.laysFinal RX8 "ProofDeskModel" "seconds" "[I", Cond.laysFinal RX8 "ProofDeskModel" "letters" "[I", Cond.laysFinal RX8 "ProofDeskModel" "sizes" "[I", Cond.laysFinal RX8 "ProofDeskModel" "truths" "[Z", Cond.lays RX8 "ProofDeskModel" "lines" "I", Cond.laysFinal RX8 "ProofDeskModel" "shown" "[I", Cond.laysFinal RX8 "ProofDeskModel" "rules" "[I", Cond.laysFinal RX8 "ProofDeskModel" "references" "[I", Cond.laysFinal RX8 "ProofDeskModel" "boxOf" "[I", Cond.lays RX8 "ProofDeskModel" "boxes" "I", Cond.laysFinal RX8 "ProofDeskModel" "begins" "[I", Cond.laysFinal RX8 "ProofDeskModel" "ends" "[I", Cond.laysFinal RX8 "ProofDeskModel" "outer" "[I", Cond.lays RX8 "ProofDeskModel" "inner" "I", Cond.lays RX8 "ProofDeskModel" "done" "I", Cond.laysFinal RX8 "ProofDeskModel" "deeds" "[I", Cond.lays RX8 "ProofDeskModel" "theorems" "I", Cond.laysFinal RX8 "ProofDeskModel" "conclusions" "[I", Cond.laysFinal RX8 "ProofDeskModel" "premises" "[I", Cond.laysFinal RX8 "ProofDeskModel" "premise" "[I", Cond.laysFinal RX8 "ProofDeskModel" "proofLines" "[I", Cond.laysFinal RX8 "ProofDeskModel" "proofNeeded" "[I", Cond.laysFinal RX8 "ProofDeskModel" "uses" "[I", Cond.lays RX8 "ProofDeskModel" "parts" "I", Cond.laysFinal RX8 "ProofDeskModel" "partSorts" "[I", Cond.laysFinal RX8 "ProofDeskModel" "partA" "[I", Cond.laysFinal RX8 "ProofDeskModel" "partB" "[I", Cond.laysFinal RX8 "ProofDeskModel" "draft" "[I", Cond.lays RX8 "ProofDeskModel" "drafted" "I", Cond.laysFinal RX8 "ProofDeskModel" "stands" "[I", Cond.laysFinal RX8 "ProofDeskModel" "areNeeded" "[Z", Cond.laysFinal RX8 "ProofDeskModel" "hinted" "[I"], w ∈ AW)
abbrev zX0_init : List Cond := (Cond.code yX0_init cX0_init 1 none) :: AW
abbrev zX0_known : List Cond := (Cond.code yX0_known cX0_known 1 (some .int)) :: AW
abbrev zX0_open : List Cond := (Cond.code yX0_open cX0_open 1 (some .int)) :: AW
abbrev zX0_innermost : List Cond := (Cond.code yX0_innermost cX0_innermost 1 (some .int)) :: AW
abbrev zX0_first : List Cond := (Cond.code yX0_first cX0_first 2 (some .int)) :: AW
abbrev zX0_last : List Cond := (Cond.code yX0_last cX0_last 2 (some .int)) :: AW
abbrev zX0_outer : List Cond := (Cond.code yX0_outer cX0_outer 2 (some .int)) :: AW
abbrev zX0_isOpen : List Cond := (Cond.code yX0_isOpen cX0_isOpen 2 (some .boolean)) :: AW
abbrev zX0_canBeReferredTo : List Cond := (Cond.code yX0_canBeReferredTo cX0_canBeReferredTo 2 (some .boolean)) :: AW
abbrev zX0_clear : List Cond := (Cond.code yX0_clear cX0_clear 1 none) :: AW
abbrev zX0_addAt : List Cond := (Cond.code yX0_addAt cX0_addAt 2 none) :: AW
abbrev zX0_shutAt : List Cond := (Cond.code yX0_shutAt cX0_shutAt 3 none) :: AW
abbrev zX0_reopen : List Cond := (Cond.code yX0_reopen cX0_reopen 2 none) :: AW
abbrev zX0_dropLatest : List Cond := (Cond.code yX0_dropLatest cX0_dropLatest 2 none) :: AW
abbrev zX1_init : List Cond := (Cond.code yX1_init cX1_init 1 none) :: AW
abbrev zX1_known : List Cond := (Cond.code yX1_known cX1_known 1 (some .int)) :: AW
abbrev zX1_isKnown : List Cond := (Cond.code yX1_isKnown cX1_isKnown 2 (some .boolean)) :: AW
abbrev zX1_sort : List Cond := (Cond.code yX1_sort cX1_sort 2 (some .int)) :: AW
abbrev zX1_first : List Cond := (Cond.code yX1_first cX1_first 2 (some .int)) :: AW
abbrev zX1_left : List Cond := (Cond.code yX1_left cX1_left 2 (some .int)) :: AW
abbrev zX1_second : List Cond := (Cond.code yX1_second cX1_second 2 (some .int)) :: AW
abbrev zX1_letters : List Cond := (Cond.code yX1_letters cX1_letters 2 (some .int)) :: AW
abbrev zX1_size : List Cond := (Cond.code yX1_size cX1_size 2 (some .int)) :: AW
abbrev zX1_width : List Cond := (Cond.code yX1_width cX1_width 2 (some .int)) :: AW
abbrev zX1_truth : List Cond := (Cond.code yX1_truth cX1_truth 3 (some .long)) :: AW
abbrev zX1_trueSets : List Cond := (Cond.code yX1_trueSets cX1_trueSets 4 (some .int)) :: AW
abbrev zX1_hasParts : List Cond := (Cond.code yX1_hasParts cX1_hasParts 4 (some .boolean)) :: AW
abbrev zX1_number : List Cond := (Cond.code yX1_number cX1_number 7 (some .int)) :: AW
abbrev zX1_find : List Cond := (Cond.code yX1_find cX1_find 5 (some .int)) :: AW
abbrev zX1_add : List Cond := (Cond.code yX1_add cX1_add 8 none) :: AW
abbrev zX1_truthOfLetter : List Cond := (Cond.code yX1_truthOfLetter cX1_truthOfLetter 2 (some .long)) :: AW
abbrev zX1_truthOfParts : List Cond := (Cond.code yX1_truthOfParts cX1_truthOfParts 5 (some .long)) :: AW
abbrev zX1_needsBrackets : List Cond := (Cond.code yX1_needsBrackets cX1_needsBrackets 3 (some .boolean)) :: AW
abbrev zX1_forgetFrom : List Cond := (Cond.code yX1_forgetFrom cX1_forgetFrom 2 none) :: AW
abbrev zX2_init : List Cond := (Cond.code yX2_init cX2_init 2 none) :: AW
abbrev zX2_size : List Cond := (Cond.code yX2_size cX2_size 1 (some .int)) :: AW
abbrev zX2_at : List Cond := (Cond.code yX2_at cX2_at 2 (some .int)) :: AW
abbrev zX2_put : List Cond := (Cond.code yX2_put cX2_put 3 none) :: AW
abbrev zX2_putOne : List Cond := (Cond.code yX2_putOne cX2_putOne 5 none) :: AW
abbrev zX2_putPart : List Cond := (Cond.code yX2_putPart cX2_putPart 6 (some .int)) :: AW
abbrev zX2_addWaiting : List Cond := (Cond.code yX2_addWaiting cX2_addWaiting 3 none) :: AW
abbrev zX2_set : List Cond := (Cond.code yX2_set cX2_set 3 none) :: AW
abbrev zX3_init : List Cond := (Cond.code yX3_init cX3_init 3 none) :: AW
abbrev zX3_lineCount : List Cond := (Cond.code yX3_lineCount cX3_lineCount 1 (some .int)) :: AW
abbrev zX3_boxCount : List Cond := (Cond.code yX3_boxCount cX3_boxCount 1 (some .int)) :: AW
abbrev zX3_openCount : List Cond := (Cond.code yX3_openCount cX3_openCount 1 (some .int)) :: AW
abbrev zX3_premiseCount : List Cond := (Cond.code yX3_premiseCount cX3_premiseCount 3 (some .int)) :: AW
abbrev zX3_formulaOf : List Cond := (Cond.code yX3_formulaOf cX3_formulaOf 2 (some .int)) :: AW
abbrev zX3_ruleOf : List Cond := (Cond.code yX3_ruleOf cX3_ruleOf 2 (some .int)) :: AW
abbrev zX3_reference : List Cond := (Cond.code yX3_reference cX3_reference 3 (some .int)) :: AW
abbrev zX3_boxOf : List Cond := (Cond.code yX3_boxOf cX3_boxOf 2 (some .int)) :: AW
abbrev zX3_firstLine : List Cond := (Cond.code yX3_firstLine cX3_firstLine 2 (some .int)) :: AW
abbrev zX3_lastLine : List Cond := (Cond.code yX3_lastLine cX3_lastLine 2 (some .int)) :: AW
abbrev zX3_outerBox : List Cond := (Cond.code yX3_outerBox cX3_outerBox 2 (some .int)) :: AW
abbrev zX3_beginOf : List Cond := (Cond.code yX3_beginOf cX3_beginOf 2 (some .int)) :: AW
abbrev zX3_endOf : List Cond := (Cond.code yX3_endOf cX3_endOf 2 (some .int)) :: AW
abbrev zX3_seesLine : List Cond := (Cond.code yX3_seesLine cX3_seesLine 2 (some .boolean)) :: AW
abbrev zX3_seesBox : List Cond := (Cond.code yX3_seesBox cX3_seesBox 2 (some .boolean)) :: AW
abbrev zX3_clear : List Cond := (Cond.code yX3_clear cX3_clear 1 none) :: AW
abbrev zX3_add : List Cond := (Cond.code yX3_add cX3_add 7 (some .int)) :: AW
abbrev zX3_refer : List Cond := (Cond.code yX3_refer cX3_refer 4 none) :: AW
abbrev zX3_openBox : List Cond := (Cond.code yX3_openBox cX3_openBox 1 none) :: AW
abbrev zX3_shutBox : List Cond := (Cond.code yX3_shutBox cX3_shutBox 2 (some .int)) :: AW
abbrev zX3_latestLineOf : List Cond := (Cond.code yX3_latestLineOf cX3_latestLineOf 3 (some .int)) :: AW
abbrev zX3_noteDeed : List Cond := (Cond.code yX3_noteDeed cX3_noteDeed 2 none) :: AW
abbrev zX3_wasBegun : List Cond := (Cond.code yX3_wasBegun cX3_wasBegun 1 (some .boolean)) :: AW
abbrev zX3_takeBack : List Cond := (Cond.code yX3_takeBack cX3_takeBack 2 none) :: AW
abbrev zX3_kind : List Cond := (Cond.code yX3_kind cX3_kind 5 (some .int)) :: AW
abbrev zX3_isNeeded : List Cond := (Cond.code yX3_isNeeded cX3_isNeeded 2 (some .boolean)) :: AW
abbrev zX3_neededCount : List Cond := (Cond.code yX3_neededCount cX3_neededCount 4 (some .int)) :: AW
abbrev zX3_markReferences : List Cond := (Cond.code yX3_markReferences cX3_markReferences 3 none) :: AW
abbrev zX3_mark : List Cond := (Cond.code yX3_mark cX3_mark 2 none) :: AW
abbrev zX3_failures : List Cond := (Cond.code yX3_failures cX3_failures 4 (some .int)) :: AW
abbrev zX3_failuresIn : List Cond := (Cond.code yX3_failuresIn cX3_failuresIn 8 (some .long)) :: AW
abbrev zX4_init : List Cond := (Cond.code yX4_init cX4_init 4 none) :: AW
abbrev zX4_refusal : List Cond := (Cond.code yX4_refusal cX4_refusal 7 (some .int)) :: AW
abbrev zX4_reaches : List Cond := (Cond.code yX4_reaches cX4_reaches 3 (some .boolean)) :: AW
abbrev zX4_hasForm : List Cond := (Cond.code yX4_hasForm cX4_hasForm 5 (some .boolean)) :: AW
abbrev zX4_firstFits : List Cond := (Cond.code yX4_firstFits cX4_firstFits 6 (some .boolean)) :: AW
abbrev zX4_secondFits : List Cond := (Cond.code yX4_secondFits cX4_secondFits 5 (some .boolean)) :: AW
abbrev zX4_thirdFits : List Cond := (Cond.code yX4_thirdFits cX4_thirdFits 5 (some .boolean)) :: AW
abbrev zX4_theoremFits : List Cond := (Cond.code yX4_theoremFits cX4_theoremFits 8 (some .boolean)) :: AW
abbrev zX4_search : List Cond := (Cond.code yX4_search cX4_search 6 (some .boolean)) :: AW
abbrev zX4_choices : List Cond := (Cond.code yX4_choices cX4_choices 3 (some .int)) :: AW
abbrev zX4_keep : List Cond := (Cond.code yX4_keep cX4_keep 5 none) :: AW
abbrev zX4_found : List Cond := (Cond.code yX4_found cX4_found 2 (some .int)) :: AW
abbrev zX5_init : List Cond := (Cond.code yX5_init cX5_init 2 none) :: AW
abbrev zX5_size : List Cond := (Cond.code yX5_size cX5_size 1 (some .int)) :: AW
abbrev zX5_error : List Cond := (Cond.code yX5_error cX5_error 1 (some .int)) :: AW
abbrev zX5_append : List Cond := (Cond.code yX5_append cX5_append 3 none) :: AW
abbrev zX5_shorten : List Cond := (Cond.code yX5_shorten cX5_shorten 2 none) :: AW
abbrev zX5_parse : List Cond := (Cond.code yX5_parse cX5_parse 3 (some .int)) :: AW
abbrev zX5_form : List Cond := (Cond.code yX5_form cX5_form 4 (some .int)) :: AW
abbrev zX5_both : List Cond := (Cond.code yX5_both cX5_both 4 (some .int)) :: AW
abbrev zX5_plain : List Cond := (Cond.code yX5_plain cX5_plain 4 (some .int)) :: AW
abbrev zX5_next : List Cond := (Cond.code yX5_next cX5_next 1 (some .int)) :: AW
abbrev zX5_takes : List Cond := (Cond.code yX5_takes cX5_takes 2 (some .boolean)) :: AW
abbrev zX5_fail : List Cond := (Cond.code yX5_fail cX5_fail 1 (some .int)) :: AW
abbrev zX6_init : List Cond := (Cond.code yX6_init cX6_init 2 none) :: AW
abbrev zX6_known : List Cond := (Cond.code yX6_known cX6_known 1 (some .int)) :: AW
abbrev zX6_isKnown : List Cond := (Cond.code yX6_isKnown cX6_isKnown 2 (some .boolean)) :: AW
abbrev zX6_conclusion : List Cond := (Cond.code yX6_conclusion cX6_conclusion 2 (some .int)) :: AW
abbrev zX6_premises : List Cond := (Cond.code yX6_premises cX6_premises 2 (some .int)) :: AW
abbrev zX6_firstPremise : List Cond := (Cond.code yX6_firstPremise cX6_firstPremise 2 (some .int)) :: AW
abbrev zX6_secondPremise : List Cond := (Cond.code yX6_secondPremise cX6_secondPremise 2 (some .int)) :: AW
abbrev zX6_lines : List Cond := (Cond.code yX6_lines cX6_lines 2 (some .int)) :: AW
abbrev zX6_needed : List Cond := (Cond.code yX6_needed cX6_needed 2 (some .int)) :: AW
abbrev zX6_uses : List Cond := (Cond.code yX6_uses cX6_uses 2 (some .int)) :: AW
abbrev zX6_noteUse : List Cond := (Cond.code yX6_noteUse cX6_noteUse 2 none) :: AW
abbrev zX6_add : List Cond := (Cond.code yX6_add cX6_add 7 (some .int)) :: AW
abbrev zX6_neededShare : List Cond := (Cond.code yX6_neededShare cX6_neededShare 4 (some .double)) :: AW
abbrev zX6_concludes : List Cond := (Cond.code yX6_concludes cX6_concludes 3 (some .boolean)) :: AW
abbrev zX6_saysWithPremises : List Cond := (Cond.code yX6_saysWithPremises cX6_saysWithPremises 7 (some .boolean)) :: AW
abbrev zX6_imageOfLetter : List Cond := (Cond.code yX6_imageOfLetter cX6_imageOfLetter 3 (some .int)) :: AW
abbrev zX6_partsBecome : List Cond := (Cond.code yX6_partsBecome cX6_partsBecome 4 (some .boolean)) :: AW
abbrev zX6_becomes : List Cond := (Cond.code yX6_becomes cX6_becomes 3 (some .boolean)) :: AW
abbrev zX7_init : List Cond := (Cond.code yX7_init cX7_init 1 none) :: AW
abbrev zX7_feed : List Cond := (Cond.code yX7_feed cX7_feed 6 (some .int)) :: AW
abbrev zX7_trim : List Cond := (Cond.code yX7_trim cX7_trim 2 (some .int)) :: AW
abbrev zX7_read : List Cond := (Cond.code yX7_read cX7_read 1 (some .int)) :: AW
abbrev zX7_errorAt : List Cond := (Cond.code yX7_errorAt cX7_errorAt 1 (some .int)) :: AW
abbrev zX7_make : List Cond := (Cond.code yX7_make cX7_make 5 (some .int)) :: AW
abbrev zX7_formula : List Cond := (Cond.code yX7_formula cX7_formula 3 (some .int)) :: AW
abbrev zX7_isTrue : List Cond := (Cond.code yX7_isTrue cX7_isTrue 3 (some .boolean)) :: AW
abbrev zX7_write : List Cond := (Cond.code yX7_write cX7_write 2 (some .int)) :: AW
abbrev zX7_byteAt : List Cond := (Cond.code yX7_byteAt cX7_byteAt 2 (some .int)) :: AW
abbrev zX7_begin : List Cond := (Cond.code yX7_begin cX7_begin 2 (some .int)) :: AW
abbrev zX7_premise : List Cond := (Cond.code yX7_premise cX7_premise 3 (some .int)) :: AW
abbrev zX7_assume : List Cond := (Cond.code yX7_assume cX7_assume 2 (some .int)) :: AW
abbrev zX7_close : List Cond := (Cond.code yX7_close cX7_close 1 (some .int)) :: AW
abbrev zX7_step : List Cond := (Cond.code yX7_step cX7_step 7 (some .int)) :: AW
abbrev zX7_undo : List Cond := (Cond.code yX7_undo cX7_undo 1 (some .int)) :: AW
abbrev zX7_count : List Cond := (Cond.code yX7_count cX7_count 2 (some .int)) :: AW
abbrev zX7_line : List Cond := (Cond.code yX7_line cX7_line 3 (some .int)) :: AW
abbrev zX7_box : List Cond := (Cond.code yX7_box cX7_box 3 (some .int)) :: AW
abbrev zX7_fails : List Cond := (Cond.code yX7_fails cX7_fails 2 (some .int)) :: AW
abbrev zX7_hint : List Cond := (Cond.code yX7_hint cX7_hint 4 (some .int)) :: AW
abbrev zX7_end : List Cond := (Cond.code yX7_end cX7_end 6 (some .int)) :: AW
abbrev zX7_theorem : List Cond := (Cond.code yX7_theorem cX7_theorem 3 (some .int)) :: AW
abbrev zX7_instance : List Cond := (Cond.code yX7_instance cX7_instance 4 (some .int)) :: AW
abbrev zX7_thrift : List Cond := (Cond.code yX7_thrift cX7_thrift 1 (some .double)) :: AW
abbrev zX7_digest : List Cond := (Cond.code yX7_digest cX7_digest 4 (some .long)) :: AW
abbrev zX7_withFormulas : List Cond := (Cond.code yX7_withFormulas cX7_withFormulas 6 (some .long)) :: AW
abbrev zX7_withProof : List Cond := (Cond.code yX7_withProof cX7_withProof 7 (some .long)) :: AW
abbrev zX7_withTheorems : List Cond := (Cond.code yX7_withTheorems cX7_withTheorems 7 (some .long)) :: AW
abbrev zX8_init : List Cond := (Cond.code yX8_init cX8_init 1 none) :: AW
abbrev zX8_thrown : List Cond := (Cond.code yX8_thrown cX8_thrown 1 (some .int)) :: AW
abbrev zX8_no : List Cond := (Cond.code yX8_no cX8_no 2 (some .int)) :: AW
abbrev zX8_isIn : List Cond := (Cond.code yX8_isIn cX8_isIn 3 (some .boolean)) :: AW
abbrev zX8_isFormula : List Cond := (Cond.code yX8_isFormula cX8_isFormula 2 (some .boolean)) :: AW
abbrev zX8_feed : List Cond := (Cond.code yX8_feed cX8_feed 12 (some .int)) :: AW
abbrev zX8_trim : List Cond := (Cond.code yX8_trim cX8_trim 2 (some .int)) :: AW
abbrev zX8_find : List Cond := (Cond.code yX8_find cX8_find 5 (some .int)) :: AW
abbrev zX8_told : List Cond := (Cond.code yX8_told cX8_told 3 (some .boolean)) :: AW
abbrev zX8_known : List Cond := (Cond.code yX8_known cX8_known 7 (some .int)) :: AW
abbrev zX8_isTrueAt : List Cond := (Cond.code yX8_isTrueAt cX8_isTrueAt 3 (some .boolean)) :: AW
abbrev zX8_part : List Cond := (Cond.code yX8_part cX8_part 4 (some .int)) :: AW
abbrev zX8_here : List Cond := (Cond.code yX8_here cX8_here 1 (some .int)) :: AW
abbrev zX8_takes : List Cond := (Cond.code yX8_takes cX8_takes 2 (some .boolean)) :: AW
abbrev zX8_form : List Cond := (Cond.code yX8_form cX8_form 4 (some .int)) :: AW
abbrev zX8_row : List Cond := (Cond.code yX8_row cX8_row 5 (some .int)) :: AW
abbrev zX8_plain : List Cond := (Cond.code yX8_plain cX8_plain 4 (some .int)) :: AW
abbrev zX8_read : List Cond := (Cond.code yX8_read cX8_read 7 (some .int)) :: AW
abbrev zX8_errorAt : List Cond := (Cond.code yX8_errorAt cX8_errorAt 1 (some .int)) :: AW
abbrev zX8_make : List Cond := (Cond.code yX8_make cX8_make 5 (some .int)) :: AW
abbrev zX8_trueFor : List Cond := (Cond.code yX8_trueFor cX8_trueFor 4 (some .int)) :: AW
abbrev zX8_formulaTold : List Cond := (Cond.code yX8_formulaTold cX8_formulaTold 3 (some .int)) :: AW
abbrev zX8_formula : List Cond := (Cond.code yX8_formula cX8_formula 3 (some .int)) :: AW
abbrev zX8_isTrue : List Cond := (Cond.code yX8_isTrue cX8_isTrue 3 (some .boolean)) :: AW
abbrev zX8_put : List Cond := (Cond.code yX8_put cX8_put 2 none) :: AW
abbrev zX8_put_ : List Cond := (Cond.code yX8_put_ cX8_put_ 5 none) :: AW
abbrev zX8_write : List Cond := (Cond.code yX8_write cX8_write 2 (some .int)) :: AW
abbrev zX8_byteAt : List Cond := (Cond.code yX8_byteAt cX8_byteAt 2 (some .int)) :: AW
abbrev zX8_clear : List Cond := (Cond.code yX8_clear cX8_clear 2 (some .int)) :: AW
abbrev zX8_begin : List Cond := (Cond.code yX8_begin cX8_begin 1 (some .int)) :: AW
abbrev zX8_add : List Cond := (Cond.code yX8_add cX8_add 6 (some .int)) :: AW
abbrev zX8_premisesNow : List Cond := (Cond.code yX8_premisesNow cX8_premisesNow 2 (some .int)) :: AW
abbrev zX8_premise : List Cond := (Cond.code yX8_premise cX8_premise 2 (some .int)) :: AW
abbrev zX8_open : List Cond := (Cond.code yX8_open cX8_open 3 (some .int)) :: AW
abbrev zX8_assume : List Cond := (Cond.code yX8_assume cX8_assume 2 (some .int)) :: AW
abbrev zX8_close : List Cond := (Cond.code yX8_close cX8_close 3 (some .int)) :: AW
abbrev zX8_areOpen : List Cond := (Cond.code yX8_areOpen cX8_areOpen 3 (some .boolean)) :: AW
abbrev zX8_isLine : List Cond := (Cond.code yX8_isLine cX8_isLine 2 (some .boolean)) :: AW
abbrev zX8_isBox : List Cond := (Cond.code yX8_isBox cX8_isBox 2 (some .boolean)) :: AW
abbrev zX8_needs : List Cond := (Cond.code yX8_needs cX8_needs 3 (some .int)) :: AW
abbrev zX8_isReference : List Cond := (Cond.code yX8_isReference cX8_isReference 3 (some .boolean)) :: AW
abbrev zX8_clearStands : List Cond := (Cond.code yX8_clearStands cX8_clearStands 2 none) :: AW
abbrev zX8_becomes : List Cond := (Cond.code yX8_becomes cX8_becomes 4 (some .boolean)) :: AW
abbrev zX8_refusal : List Cond := (Cond.code yX8_refusal cX8_refusal 12 (some .int)) :: AW
abbrev zX8_isMade : List Cond := (Cond.code yX8_isMade cX8_isMade 5 (some .boolean)) :: AW
abbrev zX8_gives : List Cond := (Cond.code yX8_gives cX8_gives 8 (some .boolean)) :: AW
abbrev zX8_theoremGives : List Cond := (Cond.code yX8_theoremGives cX8_theoremGives 6 (some .boolean)) :: AW
abbrev zX8_step : List Cond := (Cond.code yX8_step cX8_step 8 (some .int)) :: AW
abbrev zX8_undo : List Cond := (Cond.code yX8_undo cX8_undo 3 (some .int)) :: AW
abbrev zX8_need : List Cond := (Cond.code yX8_need cX8_need 3 none) :: AW
abbrev zX8_look : List Cond := (Cond.code yX8_look cX8_look 4 (some .int)) :: AW
abbrev zX8_counted : List Cond := (Cond.code yX8_counted cX8_counted 3 (some .int)) :: AW
abbrev zX8_count : List Cond := (Cond.code yX8_count cX8_count 2 (some .int)) :: AW
abbrev zX8_lineTold : List Cond := (Cond.code yX8_lineTold cX8_lineTold 3 (some .int)) :: AW
abbrev zX8_line : List Cond := (Cond.code yX8_line cX8_line 3 (some .int)) :: AW
abbrev zX8_boxTold : List Cond := (Cond.code yX8_boxTold cX8_boxTold 3 (some .int)) :: AW
abbrev zX8_box : List Cond := (Cond.code yX8_box cX8_box 3 (some .int)) :: AW
abbrev zX8_fails : List Cond := (Cond.code yX8_fails cX8_fails 7 (some .int)) :: AW
abbrev zX8_reach : List Cond := (Cond.code yX8_reach cX8_reach 2 (some .int)) :: AW
abbrev zX8_findHint : List Cond := (Cond.code yX8_findHint cX8_findHint 7 (some .boolean)) :: AW
abbrev zX8_hint : List Cond := (Cond.code yX8_hint cX8_hint 3 (some .int)) :: AW
abbrev zX8_end : List Cond := (Cond.code yX8_end cX8_end 3 (some .int)) :: AW
abbrev zX8_theoremTold : List Cond := (Cond.code yX8_theoremTold cX8_theoremTold 4 (some .int)) :: AW
abbrev zX8_isTheorem : List Cond := (Cond.code yX8_isTheorem cX8_isTheorem 2 (some .boolean)) :: AW
abbrev zX8_theorem : List Cond := (Cond.code yX8_theorem cX8_theorem 3 (some .int)) :: AW
abbrev zX8_instance : List Cond := (Cond.code yX8_instance cX8_instance 4 (some .int)) :: AW
abbrev zX8_thrift : List Cond := (Cond.code yX8_thrift cX8_thrift 4 (some .double)) :: AW
abbrev zX8_digest : List Cond := (Cond.code yX8_digest cX8_digest 5 (some .long)) :: AW
abbrev zJ13_bitCount_95d88 : List Cond := (Cond.code yJ13_bitCount_95d88 cJ13_bitCount_95d88 2 (some .int)) :: AW
abbrev zJ9_max_7cf53 : List Cond := (Cond.code yJ9_max_7cf53 cJ9_max_7cf53 2 (some .int)) :: AW
abbrev zJ9_min_7cf53 : List Cond := (Cond.code yJ9_min_7cf53 cJ9_min_7cf53 2 (some .int)) :: AW
abbrev zJ7_fill_53178 : List Cond := (Cond.code yJ7_fill_53178 cJ7_fill_53178 4 none) :: AW
abbrev zL_feed : List Cond := (Cond.codeWith yL_feed cL_feed 8 (some .int) [((0), (16), (19), (13))]) :: AW
abbrev zL_trim : List Cond := (Cond.codeWith yL_trim cL_trim 4 (some .int) [((0), (9), (12), (19))]) :: AW
abbrev zL_make : List Cond := (Cond.codeWith yL_make cL_make 6 (some .int) [((0), (12), (15), (19)), ((0), (12), (19), (25)), ((0), (12), (23), (13))]) :: AW
abbrev zL_formula : List Cond := (Cond.codeWith yL_formula cL_formula 5 (some .int) [((0), (10), (13), (25))]) :: AW
abbrev zL_isTrue : List Cond := (Cond.codeWith yL_isTrue cL_isTrue 5 (some .int) [((0), (17), (20), (25)), ((0), (17), (24), (19))]) :: AW
abbrev zL_write : List Cond := (Cond.codeWith yL_write cL_write 4 (some .int) [((0), (9), (12), (25)), ((0), (9), (15), (13))]) :: AW
abbrev zL_byteAt : List Cond := (Cond.codeWith yL_byteAt cL_byteAt 4 (some .int) [((0), (9), (12), (25))]) :: AW
abbrev zL_premise : List Cond := (Cond.codeWith yL_premise cL_premise 4 (some .int) [((0), (9), (12), (25)), ((0), (9), (15), (13))]) :: AW
abbrev zL_assume : List Cond := (Cond.codeWith yL_assume cL_assume 4 (some .int) [((0), (9), (12), (25)), ((0), (9), (15), (13))]) :: AW
abbrev zL_close : List Cond := (Cond.codeWith yL_close cL_close 3 (some .int) [((0), (8), (11), (13))]) :: AW
abbrev zL_step : List Cond := (Cond.codeWith yL_step cL_step 8 (some .int) [((0), (16), (19), (19)), ((0), (16), (23), (25)), ((0), (16), (27), (13))]) :: AW
abbrev zL_undo : List Cond := (Cond.codeWith yL_undo cL_undo 3 (some .int) [((0), (8), (11), (13))]) :: AW
abbrev zL_count : List Cond := (Cond.codeWith yL_count cL_count 4 (some .int) [((0), (9), (12), (25))]) :: AW
abbrev zL_line : List Cond := (Cond.codeWith yL_line cL_line 5 (some .int) [((0), (10), (13), (25))]) :: AW
abbrev zL_box : List Cond := (Cond.codeWith yL_box cL_box 5 (some .int) [((0), (10), (13), (25))]) :: AW
abbrev zL_fails : List Cond := (Cond.codeWith yL_fails cL_fails 4 (some .int) [((0), (9), (12), (25))]) :: AW
abbrev zL_hint : List Cond := (Cond.codeWith yL_hint cL_hint 5 (some .int) [((0), (10), (13), (25))]) :: AW
abbrev zL_end : List Cond := (Cond.codeWith yL_end cL_end 3 (some .int) [((0), (8), (11), (13))]) :: AW
abbrev zL_theorem : List Cond := (Cond.codeWith yL_theorem cL_theorem 5 (some .int) [((0), (10), (13), (25))]) :: AW
abbrev zL_instance : List Cond := (Cond.codeWith yL_instance cL_instance 6 (some .int) [((0), (12), (15), (25))]) :: AW
