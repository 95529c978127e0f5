/-- the words of the tables that stay -/
def AW : List Cond := lw_tbl.filter goodWord
theorem aw_good {w : Cond} (h : w ∈ AW) : (w.onTables && w.keeps) = true ∨ ∃ ty, w = .arrayClass ty := good_of_word (List.mem_filter.mp h).2
theorem aw_tbl {w : Cond} (h : w ∈ AW) : w ∈ lw_tbl := (List.mem_filter.mp h).1
theorem in_t1 {w : Cond} (h : w ∈ tables_1_1) (hg : goodWord w = true) : w ∈ AW := List.mem_filter.mpr ⟨List.mem_append_right _ (List.mem_append_left _ h), hg⟩
theorem in_t2 {w : Cond} (h : w ∈ tables_1_2) (hg : goodWord w = true) : w ∈ AW := List.mem_filter.mpr ⟨List.mem_append_right _ (List.mem_append_right _ (List.mem_append_left _ h)), hg⟩
theorem in_t3 {w : Cond} (h : w ∈ tables_1_3) (hg : goodWord w = true) : w ∈ AW := List.mem_filter.mpr ⟨List.mem_append_right _ (List.mem_append_right _ (List.mem_append_right _ (List.mem_append_left _ h))), hg⟩
theorem in_t4 {w : Cond} (h : w ∈ tables_1_4) (hg : goodWord w = true) : w ∈ AW := List.mem_filter.mpr ⟨List.mem_append_right _ (List.mem_append_right _ (List.mem_append_right _ (List.mem_append_right _ (h)))), hg⟩
theorem in_s1 {q : MethodName × Nat} (h : q ∈ lw_privs_1) (hg : goodWord (Cond.selects q.1.cls q.1 q.1) = true) : Cond.selects q.1.cls q.1 q.1 ∈ AW := List.mem_filter.mpr ⟨List.mem_append_left _ (List.mem_map.mpr ⟨q, List.mem_append_left _ h, rfl⟩), hg⟩
theorem in_s2 {q : MethodName × Nat} (h : q ∈ lw_privs_2) (hg : goodWord (Cond.selects q.1.cls q.1 q.1) = true) : Cond.selects q.1.cls q.1 q.1 ∈ AW := List.mem_filter.mpr ⟨List.mem_append_left _ (List.mem_map.mpr ⟨q, List.mem_append_right _ (h), rfl⟩), hg⟩
theorem gAV {X w0 : Cond} {own C : String} {idx : Nat} {y : MethodName} (h1 : Cond.methodLink own idx y ∈ AW) (h2 : Cond.instanceMethod y ∈ AW) (h3 : Cond.selects C y y ∈ AW) (h4 : Cond.initialized C ∈ AW) (h5 : w0 ∈ AW) : GoodIn (X :: AW) (wsV own idx C y (w0 :: AW)) := by
  intro w hw
  have h : w ∈ AW := by
    unfold wsV at hw
    simp only [List.cons_append, List.nil_append, List.mem_cons] at hw
    rcases hw with rfl | rfl | rfl | rfl | rfl | hw
    · exact h1
    · exact h2
    · exact h3
    · exact h4
    · exact h5
    · exact hw
  exact ⟨List.mem_cons_of_mem _ h, aw_good h⟩
theorem gAS {X w0 : Cond} {own : String} {idx : Nat} {y : MethodName} (h1 : Cond.methodLink own idx y ∈ AW) (h2 : Cond.static y ∈ AW) (h4 : Cond.initialized y.cls ∈ AW) (h5 : w0 ∈ AW) : GoodIn (X :: AW) (va_wsS own idx y (w0 :: AW)) := by
  intro w hw
  have h : w ∈ AW := by
    unfold va_wsS at hw
    simp only [List.cons_append, List.nil_append, List.mem_cons] at hw
    rcases hw with rfl | rfl | rfl | rfl | hw
    · exact h1
    · exact h2
    · exact h4
    · exact h5
    · exact hw
  exact ⟨List.mem_cons_of_mem _ h, aw_good h⟩
theorem gAI {X w0 : Cond} (h5 : w0 ∈ AW) : GoodIn (X :: AW) (w0 :: AW) := by
  intro w hw
  have h : w ∈ AW := (List.mem_cons.mp hw).elim (fun e => e ▸ h5) (fun h => h)
  exact ⟨List.mem_cons_of_mem _ h, aw_good h⟩
theorem aN_L : Cond.initialized RL ∈ AW := in_t1 (List.mem_of_getElem? (i := 0) rfl) rfl
theorem aN_X7 : Cond.initialized RX7 ∈ AW := in_t1 (List.mem_of_getElem? (i := 1) rfl) rfl
theorem aN_X1 : Cond.initialized RX1 ∈ AW := in_t1 (List.mem_of_getElem? (i := 2) rfl) rfl
theorem aN_X5 : Cond.initialized RX5 ∈ AW := in_t1 (List.mem_of_getElem? (i := 3) rfl) rfl
theorem aN_X2 : Cond.initialized RX2 ∈ AW := in_t1 (List.mem_of_getElem? (i := 4) rfl) rfl
theorem aN_X6 : Cond.initialized RX6 ∈ AW := in_t1 (List.mem_of_getElem? (i := 5) rfl) rfl
theorem aN_X3 : Cond.initialized RX3 ∈ AW := in_t1 (List.mem_of_getElem? (i := 6) rfl) rfl
theorem aN_X0 : Cond.initialized RX0 ∈ AW := in_t1 (List.mem_of_getElem? (i := 7) rfl) rfl
theorem aN_X4 : Cond.initialized RX4 ∈ AW := in_t1 (List.mem_of_getElem? (i := 8) rfl) rfl
theorem aN_J9 : Cond.initialized RJ9 ∈ AW := in_t1 (List.mem_of_getElem? (i := 14) rfl) rfl
theorem aN_J7 : Cond.initialized RJ7 ∈ AW := in_t1 (List.mem_of_getElem? (i := 16) rfl) rfl
theorem aN_J13 : Cond.initialized RJ13 ∈ AW := in_t1 (List.mem_of_getElem? (i := 17) rfl) rfl
theorem aL_L_30 : Cond.classLink RL 30 RX7 ∈ AW := in_t1 (List.mem_of_getElem? (i := 18) rfl) rfl
theorem aX_X7 : Cond.instantiable RX7 6 ∈ AW := in_t1 (List.mem_of_getElem? (i := 19) rfl) rfl
theorem aM_L_32 : Cond.methodLink RL 32 yX7_init ∈ AW := in_t1 (List.mem_of_getElem? (i := 20) rfl) rfl
theorem aI_X7_init : Cond.instanceMethod yX7_init ∈ AW := in_t1 (List.mem_of_getElem? (i := 21) rfl) rfl
theorem aC_X7_init : Cond.code yX7_init cX7_init 1 none ∈ AW := in_t1 (List.mem_of_getElem? (i := 22) rfl) rfl
theorem aM_X7_1 : Cond.methodLink RX7 1 objectInit ∈ AW := in_t1 (List.mem_of_getElem? (i := 23) rfl) rfl
theorem aI_objectInit : Cond.instanceMethod objectInit ∈ AW := in_t1 (List.mem_of_getElem? (i := 24) rfl) rfl
theorem aC_objectInit : Cond.code objectInit ⟨#[0xb1]⟩ 1 none ∈ AW := in_t1 (List.mem_of_getElem? (i := 25) rfl) rfl
theorem aL_X7_7 : Cond.classLink RX7 7 RX1 ∈ AW := in_t1 (List.mem_of_getElem? (i := 26) rfl) rfl
theorem aX_X1 : Cond.instantiable RX1 8 ∈ AW := in_t1 (List.mem_of_getElem? (i := 27) rfl) rfl
theorem aI_X1_init : Cond.instanceMethod yX1_init ∈ AW := in_t1 (List.mem_of_getElem? (i := 29) rfl) rfl
theorem aC_X1_init : Cond.code yX1_init cX1_init 1 none ∈ AW := in_t1 (List.mem_of_getElem? (i := 30) rfl) rfl
theorem aM_X1_3 : Cond.methodLink RX1 3 objectInit ∈ AW := in_t1 (List.mem_of_getElem? (i := 31) rfl) rfl
theorem aF_X1_9 : Cond.fieldLink RX1 9 "ProofDesk$Formulas" "sorts" "[I" ∈ AW := in_t1 (List.mem_of_getElem? (i := 32) rfl) rfl
theorem aF_X1_15 : Cond.fieldLink RX1 15 "ProofDesk$Formulas" "firsts" "[I" ∈ AW := in_t1 (List.mem_of_getElem? (i := 33) rfl) rfl
theorem aF_X1_18 : Cond.fieldLink RX1 18 "ProofDesk$Formulas" "seconds" "[I" ∈ AW := in_t1 (List.mem_of_getElem? (i := 34) rfl) rfl
theorem aF_X1_21 : Cond.fieldLink RX1 21 "ProofDesk$Formulas" "letterSets" "[I" ∈ AW := in_t1 (List.mem_of_getElem? (i := 35) rfl) rfl
theorem aF_X1_24 : Cond.fieldLink RX1 24 "ProofDesk$Formulas" "sizes" "[I" ∈ AW := in_t1 (List.mem_of_getElem? (i := 36) rfl) rfl
theorem aF_X1_27 : Cond.fieldLink RX1 27 "ProofDesk$Formulas" "widths" "[I" ∈ AW := in_t1 (List.mem_of_getElem? (i := 37) rfl) rfl
theorem aF_X1_30 : Cond.fieldLink RX1 30 "ProofDesk$Formulas" "truths" "[J" ∈ AW := in_t1 (List.mem_of_getElem? (i := 38) rfl) rfl
theorem aF_X1_34 : Cond.fieldLink RX1 34 "ProofDesk$Formulas" "known" "I" ∈ AW := in_t1 (List.mem_of_getElem? (i := 39) rfl) rfl
theorem aY_X1_sorts : Cond.laysFinal RX1 "ProofDesk$Formulas" "sorts" "[I" ∈ AW := in_t1 (List.mem_of_getElem? (i := 40) rfl) rfl
theorem aY_X1_firsts : Cond.laysFinal RX1 "ProofDesk$Formulas" "firsts" "[I" ∈ AW := in_t1 (List.mem_of_getElem? (i := 42) rfl) rfl
theorem aY_X1_seconds : Cond.laysFinal RX1 "ProofDesk$Formulas" "seconds" "[I" ∈ AW := in_t1 (List.mem_of_getElem? (i := 44) rfl) rfl
theorem aY_X1_letterSets : Cond.laysFinal RX1 "ProofDesk$Formulas" "letterSets" "[I" ∈ AW := in_t1 (List.mem_of_getElem? (i := 46) rfl) rfl
theorem aY_X1_sizes : Cond.laysFinal RX1 "ProofDesk$Formulas" "sizes" "[I" ∈ AW := in_t1 (List.mem_of_getElem? (i := 48) rfl) rfl
theorem aY_X1_widths : Cond.laysFinal RX1 "ProofDesk$Formulas" "widths" "[I" ∈ AW := in_t1 (List.mem_of_getElem? (i := 50) rfl) rfl
theorem aY_X1_truths : Cond.laysFinal RX1 "ProofDesk$Formulas" "truths" "[J" ∈ AW := in_t1 (List.mem_of_getElem? (i := 52) rfl) rfl
theorem aY_X1_known : Cond.lays RX1 "ProofDesk$Formulas" "known" "I" ∈ AW := in_t1 (List.mem_of_getElem? (i := 54) rfl) rfl
theorem aA_int : Cond.arrayClass .int ∈ AW := in_t1 (List.mem_of_getElem? (i := 57) rfl) rfl
theorem aA_long : Cond.arrayClass .long ∈ AW := in_t1 (List.mem_of_getElem? (i := 58) rfl) rfl
theorem aL_X7_16 : Cond.classLink RX7 16 RX5 ∈ AW := in_t1 (List.mem_of_getElem? (i := 59) rfl) rfl
theorem aX_X5 : Cond.instantiable RX5 5 ∈ AW := in_t1 (List.mem_of_getElem? (i := 60) rfl) rfl
theorem aM_X7_18 : Cond.methodLink RX7 18 yX5_init ∈ AW := in_t1 (List.mem_of_getElem? (i := 61) rfl) rfl
theorem aI_X5_init : Cond.instanceMethod yX5_init ∈ AW := in_t1 (List.mem_of_getElem? (i := 62) rfl) rfl
theorem aC_X5_init : Cond.code yX5_init cX5_init 2 none ∈ AW := in_t1 (List.mem_of_getElem? (i := 63) rfl) rfl
theorem aM_X5_3 : Cond.methodLink RX5 3 objectInit ∈ AW := in_t1 (List.mem_of_getElem? (i := 64) rfl) rfl
theorem aF_X5_19 : Cond.fieldLink RX5 19 "ProofDesk$Tape" "formulas" "LProofDesk$Formulas;" ∈ AW := in_t1 (List.mem_of_getElem? (i := 65) rfl) rfl
theorem aF_X5_9 : Cond.fieldLink RX5 9 "ProofDesk$Tape" "bytes" "[B" ∈ AW := in_t1 (List.mem_of_getElem? (i := 66) rfl) rfl
theorem aF_X5_23 : Cond.fieldLink RX5 23 "ProofDesk$Tape" "size" "I" ∈ AW := in_t1 (List.mem_of_getElem? (i := 67) rfl) rfl
theorem aF_X5_15 : Cond.fieldLink RX5 15 "ProofDesk$Tape" "error" "I" ∈ AW := in_t1 (List.mem_of_getElem? (i := 68) rfl) rfl
theorem aY_X5_formulas : Cond.laysFinal RX5 "ProofDesk$Tape" "formulas" "LProofDesk$Formulas;" ∈ AW := in_t1 (List.mem_of_getElem? (i := 69) rfl) rfl
theorem aY_X5_bytes : Cond.laysFinal RX5 "ProofDesk$Tape" "bytes" "[B" ∈ AW := in_t1 (List.mem_of_getElem? (i := 71) rfl) rfl
theorem aY_X5_size : Cond.lays RX5 "ProofDesk$Tape" "size" "I" ∈ AW := in_t1 (List.mem_of_getElem? (i := 73) rfl) rfl
theorem aY_X5_at : Cond.lays RX5 "ProofDesk$Tape" "at" "I" ∈ AW := in_t1 (List.mem_of_getElem? (i := 75) rfl) rfl
theorem aY_X5_error : Cond.lays RX5 "ProofDesk$Tape" "error" "I" ∈ AW := in_t1 (List.mem_of_getElem? (i := 77) rfl) rfl
theorem aA_byte : Cond.arrayClass .byte ∈ AW := in_t1 (List.mem_of_getElem? (i := 80) rfl) rfl
theorem aL_X7_25 : Cond.classLink RX7 25 RX2 ∈ AW := in_t1 (List.mem_of_getElem? (i := 81) rfl) rfl
theorem aX_X2 : Cond.instantiable RX2 6 ∈ AW := in_t1 (List.mem_of_getElem? (i := 82) rfl) rfl
theorem aM_X7_27 : Cond.methodLink RX7 27 yX2_init ∈ AW := in_t1 (List.mem_of_getElem? (i := 83) rfl) rfl
theorem aI_X2_init : Cond.instanceMethod yX2_init ∈ AW := in_t1 (List.mem_of_getElem? (i := 84) rfl) rfl
theorem aC_X2_init : Cond.code yX2_init cX2_init 2 none ∈ AW := in_t1 (List.mem_of_getElem? (i := 85) rfl) rfl
theorem aM_X2_3 : Cond.methodLink RX2 3 objectInit ∈ AW := in_t1 (List.mem_of_getElem? (i := 86) rfl) rfl
theorem aF_X2_22 : Cond.fieldLink RX2 22 "ProofDesk$Paper" "formulas" "LProofDesk$Formulas;" ∈ AW := in_t1 (List.mem_of_getElem? (i := 87) rfl) rfl
theorem aF_X2_9 : Cond.fieldLink RX2 9 "ProofDesk$Paper" "bytes" "[B" ∈ AW := in_t1 (List.mem_of_getElem? (i := 88) rfl) rfl
theorem aF_X2_15 : Cond.fieldLink RX2 15 "ProofDesk$Paper" "waiting" "[I" ∈ AW := in_t1 (List.mem_of_getElem? (i := 89) rfl) rfl
theorem aF_X2_19 : Cond.fieldLink RX2 19 "ProofDesk$Paper" "places" "[I" ∈ AW := in_t1 (List.mem_of_getElem? (i := 90) rfl) rfl
theorem aF_X2_26 : Cond.fieldLink RX2 26 "ProofDesk$Paper" "size" "I" ∈ AW := in_t1 (List.mem_of_getElem? (i := 91) rfl) rfl
theorem aY_X2_formulas : Cond.laysFinal RX2 "ProofDesk$Paper" "formulas" "LProofDesk$Formulas;" ∈ AW := in_t1 (List.mem_of_getElem? (i := 92) rfl) rfl
theorem aY_X2_bytes : Cond.laysFinal RX2 "ProofDesk$Paper" "bytes" "[B" ∈ AW := in_t1 (List.mem_of_getElem? (i := 94) rfl) rfl
theorem aY_X2_waiting : Cond.laysFinal RX2 "ProofDesk$Paper" "waiting" "[I" ∈ AW := in_t1 (List.mem_of_getElem? (i := 96) rfl) rfl
theorem aY_X2_places : Cond.laysFinal RX2 "ProofDesk$Paper" "places" "[I" ∈ AW := in_t1 (List.mem_of_getElem? (i := 98) rfl) rfl
theorem aY_X2_waitingCount : Cond.lays RX2 "ProofDesk$Paper" "waitingCount" "I" ∈ AW := in_t1 (List.mem_of_getElem? (i := 100) rfl) rfl
theorem aY_X2_size : Cond.lays RX2 "ProofDesk$Paper" "size" "I" ∈ AW := in_t1 (List.mem_of_getElem? (i := 102) rfl) rfl
theorem aL_X7_32 : Cond.classLink RX7 32 RX6 ∈ AW := in_t1 (List.mem_of_getElem? (i := 105) rfl) rfl
theorem aX_X6 : Cond.instantiable RX6 9 ∈ AW := in_t1 (List.mem_of_getElem? (i := 106) rfl) rfl
theorem aM_X7_34 : Cond.methodLink RX7 34 yX6_init ∈ AW := in_t1 (List.mem_of_getElem? (i := 107) rfl) rfl
theorem aI_X6_init : Cond.instanceMethod yX6_init ∈ AW := in_t1 (List.mem_of_getElem? (i := 108) rfl) rfl
theorem aC_X6_init : Cond.code yX6_init cX6_init 2 none ∈ AW := in_t1 (List.mem_of_getElem? (i := 109) rfl) rfl
theorem aM_X6_3 : Cond.methodLink RX6 3 objectInit ∈ AW := in_t1 (List.mem_of_getElem? (i := 110) rfl) rfl
theorem aF_X6_33 : Cond.fieldLink RX6 33 "ProofDesk$Theorems" "formulas" "LProofDesk$Formulas;" ∈ AW := in_t1 (List.mem_of_getElem? (i := 111) rfl) rfl
theorem aF_X6_9 : Cond.fieldLink RX6 9 "ProofDesk$Theorems" "conclusions" "[I" ∈ AW := in_t1 (List.mem_of_getElem? (i := 112) rfl) rfl
theorem aF_X6_15 : Cond.fieldLink RX6 15 "ProofDesk$Theorems" "firsts" "[I" ∈ AW := in_t1 (List.mem_of_getElem? (i := 113) rfl) rfl
theorem aF_X6_18 : Cond.fieldLink RX6 18 "ProofDesk$Theorems" "seconds" "[I" ∈ AW := in_t1 (List.mem_of_getElem? (i := 114) rfl) rfl
theorem aF_X6_21 : Cond.fieldLink RX6 21 "ProofDesk$Theorems" "lines" "[I" ∈ AW := in_t1 (List.mem_of_getElem? (i := 115) rfl) rfl
theorem aF_X6_24 : Cond.fieldLink RX6 24 "ProofDesk$Theorems" "needed" "[I" ∈ AW := in_t1 (List.mem_of_getElem? (i := 116) rfl) rfl
theorem aF_X6_27 : Cond.fieldLink RX6 27 "ProofDesk$Theorems" "uses" "[I" ∈ AW := in_t1 (List.mem_of_getElem? (i := 117) rfl) rfl
theorem aF_X6_30 : Cond.fieldLink RX6 30 "ProofDesk$Theorems" "images" "[I" ∈ AW := in_t1 (List.mem_of_getElem? (i := 118) rfl) rfl
theorem aF_X6_37 : Cond.fieldLink RX6 37 "ProofDesk$Theorems" "known" "I" ∈ AW := in_t1 (List.mem_of_getElem? (i := 119) rfl) rfl
theorem aY_X6_formulas : Cond.laysFinal RX6 "ProofDesk$Theorems" "formulas" "LProofDesk$Formulas;" ∈ AW := in_t1 (List.mem_of_getElem? (i := 120) rfl) rfl
theorem aY_X6_conclusions : Cond.laysFinal RX6 "ProofDesk$Theorems" "conclusions" "[I" ∈ AW := in_t1 (List.mem_of_getElem? (i := 122) rfl) rfl
theorem aY_X6_firsts : Cond.laysFinal RX6 "ProofDesk$Theorems" "firsts" "[I" ∈ AW := in_t1 (List.mem_of_getElem? (i := 124) rfl) rfl
theorem aY_X6_seconds : Cond.laysFinal RX6 "ProofDesk$Theorems" "seconds" "[I" ∈ AW := in_t1 (List.mem_of_getElem? (i := 126) rfl) rfl
theorem aY_X6_lines : Cond.laysFinal RX6 "ProofDesk$Theorems" "lines" "[I" ∈ AW := in_t1 (List.mem_of_getElem? (i := 128) rfl) rfl
theorem aY_X6_needed : Cond.laysFinal RX6 "ProofDesk$Theorems" "needed" "[I" ∈ AW := in_t1 (List.mem_of_getElem? (i := 130) rfl) rfl
theorem aY_X6_uses : Cond.laysFinal RX6 "ProofDesk$Theorems" "uses" "[I" ∈ AW := in_t1 (List.mem_of_getElem? (i := 132) rfl) rfl
theorem aY_X6_images : Cond.laysFinal RX6 "ProofDesk$Theorems" "images" "[I" ∈ AW := in_t1 (List.mem_of_getElem? (i := 134) rfl) rfl
theorem aY_X6_known : Cond.lays RX6 "ProofDesk$Theorems" "known" "I" ∈ AW := in_t1 (List.mem_of_getElem? (i := 136) rfl) rfl
theorem aL_X7_39 : Cond.classLink RX7 39 RX3 ∈ AW := in_t1 (List.mem_of_getElem? (i := 139) rfl) rfl
theorem aX_X3 : Cond.instantiable RX3 12 ∈ AW := in_t1 (List.mem_of_getElem? (i := 140) rfl) rfl
theorem aM_X7_41 : Cond.methodLink RX7 41 yX3_init ∈ AW := in_t1 (List.mem_of_getElem? (i := 141) rfl) rfl
theorem aI_X3_init : Cond.instanceMethod yX3_init ∈ AW := in_t1 (List.mem_of_getElem? (i := 142) rfl) rfl
theorem aC_X3_init : Cond.code yX3_init cX3_init 3 none ∈ AW := in_t1 (List.mem_of_getElem? (i := 143) rfl) rfl
theorem aM_X3_3 : Cond.methodLink RX3 3 objectInit ∈ AW := in_t1 (List.mem_of_getElem? (i := 144) rfl) rfl
theorem aL_X3_9 : Cond.classLink RX3 9 RX0 ∈ AW := in_t1 (List.mem_of_getElem? (i := 145) rfl) rfl
theorem aX_X0 : Cond.instantiable RX0 6 ∈ AW := in_t1 (List.mem_of_getElem? (i := 146) rfl) rfl
theorem aI_X0_init : Cond.instanceMethod yX0_init ∈ AW := in_t1 (List.mem_of_getElem? (i := 148) rfl) rfl
theorem aC_X0_init : Cond.code yX0_init cX0_init 1 none ∈ AW := in_t1 (List.mem_of_getElem? (i := 149) rfl) rfl
theorem aM_X0_3 : Cond.methodLink RX0 3 objectInit ∈ AW := in_t1 (List.mem_of_getElem? (i := 150) rfl) rfl
theorem aF_X0_9 : Cond.fieldLink RX0 9 "ProofDesk$Boxes" "firsts" "[I" ∈ AW := in_t1 (List.mem_of_getElem? (i := 151) rfl) rfl
theorem aF_X0_15 : Cond.fieldLink RX0 15 "ProofDesk$Boxes" "lasts" "[I" ∈ AW := in_t1 (List.mem_of_getElem? (i := 152) rfl) rfl
theorem aF_X0_18 : Cond.fieldLink RX0 18 "ProofDesk$Boxes" "outers" "[I" ∈ AW := in_t1 (List.mem_of_getElem? (i := 153) rfl) rfl
theorem aF_X0_25 : Cond.fieldLink RX0 25 "ProofDesk$Boxes" "known" "I" ∈ AW := in_t1 (List.mem_of_getElem? (i := 154) rfl) rfl
theorem aF_X0_28 : Cond.fieldLink RX0 28 "ProofDesk$Boxes" "open" "I" ∈ AW := in_t1 (List.mem_of_getElem? (i := 155) rfl) rfl
theorem aF_X0_21 : Cond.fieldLink RX0 21 "ProofDesk$Boxes" "innermost" "I" ∈ AW := in_t1 (List.mem_of_getElem? (i := 156) rfl) rfl
theorem aY_X0_firsts : Cond.laysFinal RX0 "ProofDesk$Boxes" "firsts" "[I" ∈ AW := in_t1 (List.mem_of_getElem? (i := 157) rfl) rfl
theorem aY_X0_lasts : Cond.laysFinal RX0 "ProofDesk$Boxes" "lasts" "[I" ∈ AW := in_t1 (List.mem_of_getElem? (i := 159) rfl) rfl
theorem aY_X0_outers : Cond.laysFinal RX0 "ProofDesk$Boxes" "outers" "[I" ∈ AW := in_t1 (List.mem_of_getElem? (i := 161) rfl) rfl
theorem aY_X0_known : Cond.lays RX0 "ProofDesk$Boxes" "known" "I" ∈ AW := in_t1 (List.mem_of_getElem? (i := 163) rfl) rfl
theorem aY_X0_open : Cond.lays RX0 "ProofDesk$Boxes" "open" "I" ∈ AW := in_t1 (List.mem_of_getElem? (i := 165) rfl) rfl
theorem aY_X0_innermost : Cond.lays RX0 "ProofDesk$Boxes" "innermost" "I" ∈ AW := in_t1 (List.mem_of_getElem? (i := 167) rfl) rfl
theorem aF_X3_41 : Cond.fieldLink RX3 41 "ProofDesk$Proof" "formulas" "LProofDesk$Formulas;" ∈ AW := in_t1 (List.mem_of_getElem? (i := 170) rfl) rfl
theorem aF_X3_45 : Cond.fieldLink RX3 45 "ProofDesk$Proof" "theorems" "LProofDesk$Theorems;" ∈ AW := in_t1 (List.mem_of_getElem? (i := 171) rfl) rfl
theorem aF_X3_12 : Cond.fieldLink RX3 12 "ProofDesk$Proof" "boxes" "LProofDesk$Boxes;" ∈ AW := in_t1 (List.mem_of_getElem? (i := 172) rfl) rfl
theorem aF_X3_18 : Cond.fieldLink RX3 18 "ProofDesk$Proof" "lineFormulas" "[I" ∈ AW := in_t1 (List.mem_of_getElem? (i := 173) rfl) rfl
theorem aF_X3_22 : Cond.fieldLink RX3 22 "ProofDesk$Proof" "lineRules" "[I" ∈ AW := in_t1 (List.mem_of_getElem? (i := 174) rfl) rfl
theorem aF_X3_25 : Cond.fieldLink RX3 25 "ProofDesk$Proof" "references" "[I" ∈ AW := in_t1 (List.mem_of_getElem? (i := 175) rfl) rfl
theorem aF_X3_28 : Cond.fieldLink RX3 28 "ProofDesk$Proof" "kinds" "[I" ∈ AW := in_t1 (List.mem_of_getElem? (i := 176) rfl) rfl
theorem aF_X3_31 : Cond.fieldLink RX3 31 "ProofDesk$Proof" "lineBoxes" "[I" ∈ AW := in_t1 (List.mem_of_getElem? (i := 177) rfl) rfl
theorem aF_X3_34 : Cond.fieldLink RX3 34 "ProofDesk$Proof" "needed" "[Z" ∈ AW := in_t1 (List.mem_of_getElem? (i := 178) rfl) rfl
theorem aF_X3_38 : Cond.fieldLink RX3 38 "ProofDesk$Proof" "deeds" "[I" ∈ AW := in_t1 (List.mem_of_getElem? (i := 179) rfl) rfl
theorem aF_X3_85 : Cond.fieldLink RX3 85 "ProofDesk$Proof" "deedCount" "I" ∈ AW := in_t1 (List.mem_of_getElem? (i := 180) rfl) rfl
theorem aF_X3_49 : Cond.fieldLink RX3 49 "ProofDesk$Proof" "lineCount" "I" ∈ AW := in_t1 (List.mem_of_getElem? (i := 181) rfl) rfl
theorem aY_X3_formulas : Cond.laysFinal RX3 "ProofDesk$Proof" "formulas" "LProofDesk$Formulas;" ∈ AW := in_t1 (List.mem_of_getElem? (i := 182) rfl) rfl
theorem aY_X3_theorems : Cond.laysFinal RX3 "ProofDesk$Proof" "theorems" "LProofDesk$Theorems;" ∈ AW := in_t1 (List.mem_of_getElem? (i := 184) rfl) rfl
theorem aY_X3_boxes : Cond.laysFinal RX3 "ProofDesk$Proof" "boxes" "LProofDesk$Boxes;" ∈ AW := in_t1 (List.mem_of_getElem? (i := 186) rfl) rfl
theorem aY_X3_lineFormulas : Cond.laysFinal RX3 "ProofDesk$Proof" "lineFormulas" "[I" ∈ AW := in_t1 (List.mem_of_getElem? (i := 188) rfl) rfl
theorem aY_X3_lineRules : Cond.laysFinal RX3 "ProofDesk$Proof" "lineRules" "[I" ∈ AW := in_t1 (List.mem_of_getElem? (i := 190) rfl) rfl
theorem aY_X3_references : Cond.laysFinal RX3 "ProofDesk$Proof" "references" "[I" ∈ AW := in_t1 (List.mem_of_getElem? (i := 192) rfl) rfl
theorem aY_X3_kinds : Cond.laysFinal RX3 "ProofDesk$Proof" "kinds" "[I" ∈ AW := in_t1 (List.mem_of_getElem? (i := 194) rfl) rfl
theorem aY_X3_lineBoxes : Cond.laysFinal RX3 "ProofDesk$Proof" "lineBoxes" "[I" ∈ AW := in_t1 (List.mem_of_getElem? (i := 196) rfl) rfl
theorem aY_X3_needed : Cond.laysFinal RX3 "ProofDesk$Proof" "needed" "[Z" ∈ AW := in_t1 (List.mem_of_getElem? (i := 198) rfl) rfl
theorem aY_X3_deeds : Cond.laysFinal RX3 "ProofDesk$Proof" "deeds" "[I" ∈ AW := in_t1 (List.mem_of_getElem? (i := 200) rfl) rfl
theorem aY_X3_deedCount : Cond.lays RX3 "ProofDesk$Proof" "deedCount" "I" ∈ AW := in_t1 (List.mem_of_getElem? (i := 202) rfl) rfl
theorem aY_X3_lineCount : Cond.lays RX3 "ProofDesk$Proof" "lineCount" "I" ∈ AW := in_t1 (List.mem_of_getElem? (i := 204) rfl) rfl
theorem aA_boolean : Cond.arrayClass .boolean ∈ AW := in_t1 (List.mem_of_getElem? (i := 207) rfl) rfl
theorem aL_X7_48 : Cond.classLink RX7 48 RX4 ∈ AW := in_t1 (List.mem_of_getElem? (i := 208) rfl) rfl
theorem aX_X4 : Cond.instantiable RX4 4 ∈ AW := in_t1 (List.mem_of_getElem? (i := 209) rfl) rfl
theorem aM_X7_50 : Cond.methodLink RX7 50 yX4_init ∈ AW := in_t1 (List.mem_of_getElem? (i := 210) rfl) rfl
theorem aI_X4_init : Cond.instanceMethod yX4_init ∈ AW := in_t1 (List.mem_of_getElem? (i := 211) rfl) rfl
theorem aC_X4_init : Cond.code yX4_init cX4_init 4 none ∈ AW := in_t1 (List.mem_of_getElem? (i := 212) rfl) rfl
theorem aM_X4_3 : Cond.methodLink RX4 3 objectInit ∈ AW := in_t1 (List.mem_of_getElem? (i := 213) rfl) rfl
theorem aF_X4_15 : Cond.fieldLink RX4 15 "ProofDesk$Rules" "formulas" "LProofDesk$Formulas;" ∈ AW := in_t1 (List.mem_of_getElem? (i := 214) rfl) rfl
theorem aF_X4_19 : Cond.fieldLink RX4 19 "ProofDesk$Rules" "theorems" "LProofDesk$Theorems;" ∈ AW := in_t1 (List.mem_of_getElem? (i := 215) rfl) rfl
theorem aF_X4_23 : Cond.fieldLink RX4 23 "ProofDesk$Rules" "proof" "LProofDesk$Proof;" ∈ AW := in_t1 (List.mem_of_getElem? (i := 216) rfl) rfl
theorem aF_X4_9 : Cond.fieldLink RX4 9 "ProofDesk$Rules" "found" "[I" ∈ AW := in_t1 (List.mem_of_getElem? (i := 217) rfl) rfl
theorem aY_X4_formulas : Cond.laysFinal RX4 "ProofDesk$Rules" "formulas" "LProofDesk$Formulas;" ∈ AW := in_t1 (List.mem_of_getElem? (i := 218) rfl) rfl
theorem aY_X4_theorems : Cond.laysFinal RX4 "ProofDesk$Rules" "theorems" "LProofDesk$Theorems;" ∈ AW := in_t1 (List.mem_of_getElem? (i := 220) rfl) rfl
theorem aY_X4_proof : Cond.laysFinal RX4 "ProofDesk$Rules" "proof" "LProofDesk$Proof;" ∈ AW := in_t1 (List.mem_of_getElem? (i := 222) rfl) rfl
theorem aY_X4_found : Cond.laysFinal RX4 "ProofDesk$Rules" "found" "[I" ∈ AW := in_t1 (List.mem_of_getElem? (i := 224) rfl) rfl
theorem aF_X7_10 : Cond.fieldLink RX7 10 "ProofDesk" "formulas" "LProofDesk$Formulas;" ∈ AW := in_t1 (List.mem_of_getElem? (i := 227) rfl) rfl
theorem aF_X7_21 : Cond.fieldLink RX7 21 "ProofDesk" "tape" "LProofDesk$Tape;" ∈ AW := in_t1 (List.mem_of_getElem? (i := 228) rfl) rfl
theorem aF_X7_28 : Cond.fieldLink RX7 28 "ProofDesk" "paper" "LProofDesk$Paper;" ∈ AW := in_t1 (List.mem_of_getElem? (i := 229) rfl) rfl
theorem aF_X7_35 : Cond.fieldLink RX7 35 "ProofDesk" "theorems" "LProofDesk$Theorems;" ∈ AW := in_t1 (List.mem_of_getElem? (i := 230) rfl) rfl
theorem aF_X7_44 : Cond.fieldLink RX7 44 "ProofDesk" "proof" "LProofDesk$Proof;" ∈ AW := in_t1 (List.mem_of_getElem? (i := 231) rfl) rfl
theorem aF_X7_53 : Cond.fieldLink RX7 53 "ProofDesk" "rules" "LProofDesk$Rules;" ∈ AW := in_t1 (List.mem_of_getElem? (i := 232) rfl) rfl
theorem aY_X7_formulas : Cond.laysFinal RX7 "ProofDesk" "formulas" "LProofDesk$Formulas;" ∈ AW := in_t1 (List.mem_of_getElem? (i := 233) rfl) rfl
theorem aY_X7_tape : Cond.laysFinal RX7 "ProofDesk" "tape" "LProofDesk$Tape;" ∈ AW := in_t1 (List.mem_of_getElem? (i := 235) rfl) rfl
theorem aY_X7_paper : Cond.laysFinal RX7 "ProofDesk" "paper" "LProofDesk$Paper;" ∈ AW := in_t1 (List.mem_of_getElem? (i := 237) rfl) rfl
theorem aY_X7_theorems : Cond.laysFinal RX7 "ProofDesk" "theorems" "LProofDesk$Theorems;" ∈ AW := in_t1 (List.mem_of_getElem? (i := 239) rfl) rfl
theorem aY_X7_proof : Cond.laysFinal RX7 "ProofDesk" "proof" "LProofDesk$Proof;" ∈ AW := in_t2 (List.mem_of_getElem? (i := 1) rfl) rfl
theorem aY_X7_rules : Cond.laysFinal RX7 "ProofDesk" "rules" "LProofDesk$Rules;" ∈ AW := in_t2 (List.mem_of_getElem? (i := 3) rfl) rfl
theorem aM_L_41 : Cond.methodLink RL 41 yX7_make ∈ AW := in_t2 (List.mem_of_getElem? (i := 6) rfl) rfl
theorem aI_X7_make : Cond.instanceMethod yX7_make ∈ AW := in_t2 (List.mem_of_getElem? (i := 7) rfl) rfl
theorem aS_X7_make : Cond.selects RX7 yX7_make yX7_make ∈ AW := in_t2 (List.mem_of_getElem? (i := 8) rfl) rfl
theorem aC_X7_make : Cond.code yX7_make cX7_make 5 (some .int) ∈ AW := in_t2 (List.mem_of_getElem? (i := 9) rfl) rfl
theorem aL_X7_72 : Cond.classLink RX7 72 "java/lang/IllegalArgumentException" ∈ AW := in_t2 (List.mem_of_getElem? (i := 10) rfl) rfl
theorem aM_X7_90 : Cond.methodLink RX7 90 yX1_hasParts ∈ AW := in_t2 (List.mem_of_getElem? (i := 78) rfl) rfl
theorem aI_X1_hasParts : Cond.instanceMethod yX1_hasParts ∈ AW := in_t2 (List.mem_of_getElem? (i := 79) rfl) rfl
theorem aS_X1_hasParts : Cond.selects RX1 yX1_hasParts yX1_hasParts ∈ AW := in_t2 (List.mem_of_getElem? (i := 80) rfl) rfl
theorem aC_X1_hasParts : Cond.code yX1_hasParts cX1_hasParts 4 (some .boolean) ∈ AW := in_t2 (List.mem_of_getElem? (i := 81) rfl) rfl
theorem aM_X1_48 : Cond.methodLink RX1 48 yX1_isKnown ∈ AW := in_t2 (List.mem_of_getElem? (i := 82) rfl) rfl
theorem aI_X1_isKnown : Cond.instanceMethod yX1_isKnown ∈ AW := in_t2 (List.mem_of_getElem? (i := 83) rfl) rfl
theorem aS_X1_isKnown : Cond.selects RX1 yX1_isKnown yX1_isKnown ∈ AW := in_t2 (List.mem_of_getElem? (i := 84) rfl) rfl
theorem aC_X1_isKnown : Cond.code yX1_isKnown cX1_isKnown 2 (some .boolean) ∈ AW := in_t2 (List.mem_of_getElem? (i := 85) rfl) rfl
theorem aL_X7_94 : Cond.classLink RX7 94 "java/lang/IndexOutOfBoundsException" ∈ AW := in_t2 (List.mem_of_getElem? (i := 86) rfl) rfl
theorem aM_X7_99 : Cond.methodLink RX7 99 yX1_number ∈ AW := in_t2 (List.mem_of_getElem? (i := 102) rfl) rfl
theorem aI_X1_number : Cond.instanceMethod yX1_number ∈ AW := in_t2 (List.mem_of_getElem? (i := 103) rfl) rfl
theorem aS_X1_number : Cond.selects RX1 yX1_number yX1_number ∈ AW := in_t2 (List.mem_of_getElem? (i := 104) rfl) rfl
theorem aC_X1_number : Cond.code yX1_number cX1_number 7 (some .int) ∈ AW := in_t2 (List.mem_of_getElem? (i := 105) rfl) rfl
theorem aM_X1_52 : Cond.methodLink RX1 52 yX1_hasParts ∈ AW := in_t2 (List.mem_of_getElem? (i := 106) rfl) rfl
theorem aM_X1_56 : Cond.methodLink RX1 56 yX1_find ∈ AW := in_t2 (List.mem_of_getElem? (i := 107) rfl) rfl
theorem aI_X1_find : Cond.instanceMethod yX1_find ∈ AW := in_t2 (List.mem_of_getElem? (i := 108) rfl) rfl
theorem aS_X1_find : Cond.selects RX1 yX1_find yX1_find ∈ AW := in_t2 (List.mem_of_getElem? (i := 109) rfl) rfl
theorem aC_X1_find : Cond.code yX1_find cX1_find 5 (some .int) ∈ AW := in_t2 (List.mem_of_getElem? (i := 110) rfl) rfl
theorem aM_X1_60 : Cond.methodLink RX1 60 yX1_add ∈ AW := in_t2 (List.mem_of_getElem? (i := 111) rfl) rfl
theorem aI_X1_add : Cond.instanceMethod yX1_add ∈ AW := in_t2 (List.mem_of_getElem? (i := 113) rfl) rfl
theorem aC_X1_add : Cond.code yX1_add cX1_add 8 none ∈ AW := in_t2 (List.mem_of_getElem? (i := 114) rfl) rfl
theorem aM_X1_64 : Cond.methodLink RX1 64 yX1_letters ∈ AW := in_t2 (List.mem_of_getElem? (i := 115) rfl) rfl
theorem aI_X1_letters : Cond.instanceMethod yX1_letters ∈ AW := in_t2 (List.mem_of_getElem? (i := 116) rfl) rfl
theorem aS_X1_letters : Cond.selects RX1 yX1_letters yX1_letters ∈ AW := in_t2 (List.mem_of_getElem? (i := 117) rfl) rfl
theorem aC_X1_letters : Cond.code yX1_letters cX1_letters 2 (some .int) ∈ AW := in_t2 (List.mem_of_getElem? (i := 118) rfl) rfl
theorem aK_X1_68 : Cond.constant RX1 68 (1000000) ∈ AW := in_t2 (List.mem_of_getElem? (i := 119) rfl) rfl
theorem aM_X1_69 : Cond.methodLink RX1 69 yX1_size ∈ AW := in_t2 (List.mem_of_getElem? (i := 120) rfl) rfl
theorem aI_X1_size : Cond.instanceMethod yX1_size ∈ AW := in_t2 (List.mem_of_getElem? (i := 121) rfl) rfl
theorem aS_X1_size : Cond.selects RX1 yX1_size yX1_size ∈ AW := in_t2 (List.mem_of_getElem? (i := 122) rfl) rfl
theorem aC_X1_size : Cond.code yX1_size cX1_size 2 (some .int) ∈ AW := in_t2 (List.mem_of_getElem? (i := 123) rfl) rfl
theorem aM_X1_72 : Cond.methodLink RX1 72 yJ9_min_7cf53 ∈ AW := in_t2 (List.mem_of_getElem? (i := 124) rfl) rfl
theorem aT_J9_min_7cf53 : Cond.static yJ9_min_7cf53 ∈ AW := in_t2 (List.mem_of_getElem? (i := 125) rfl) rfl
theorem aC_J9_min_7cf53 : Cond.code yJ9_min_7cf53 cJ9_min_7cf53 2 (some .int) ∈ AW := in_t2 (List.mem_of_getElem? (i := 126) rfl) rfl
theorem aM_X1_78 : Cond.methodLink RX1 78 yX1_sort ∈ AW := in_t2 (List.mem_of_getElem? (i := 127) rfl) rfl
theorem aI_X1_sort : Cond.instanceMethod yX1_sort ∈ AW := in_t2 (List.mem_of_getElem? (i := 128) rfl) rfl
theorem aS_X1_sort : Cond.selects RX1 yX1_sort yX1_sort ∈ AW := in_t2 (List.mem_of_getElem? (i := 129) rfl) rfl
theorem aC_X1_sort : Cond.code yX1_sort cX1_sort 2 (some .int) ∈ AW := in_t2 (List.mem_of_getElem? (i := 130) rfl) rfl
theorem aM_X1_81 : Cond.methodLink RX1 81 yX1_needsBrackets ∈ AW := in_t2 (List.mem_of_getElem? (i := 131) rfl) rfl
theorem aT_X1_needsBrackets : Cond.static yX1_needsBrackets ∈ AW := in_t2 (List.mem_of_getElem? (i := 132) rfl) rfl
theorem aC_X1_needsBrackets : Cond.code yX1_needsBrackets cX1_needsBrackets 3 (some .boolean) ∈ AW := in_t2 (List.mem_of_getElem? (i := 133) rfl) rfl
theorem aM_X1_85 : Cond.methodLink RX1 85 yX1_width ∈ AW := in_t2 (List.mem_of_getElem? (i := 134) rfl) rfl
theorem aI_X1_width : Cond.instanceMethod yX1_width ∈ AW := in_t2 (List.mem_of_getElem? (i := 135) rfl) rfl
theorem aS_X1_width : Cond.selects RX1 yX1_width yX1_width ∈ AW := in_t2 (List.mem_of_getElem? (i := 136) rfl) rfl
theorem aC_X1_width : Cond.code yX1_width cX1_width 2 (some .int) ∈ AW := in_t2 (List.mem_of_getElem? (i := 137) rfl) rfl
theorem aM_X1_88 : Cond.methodLink RX1 88 yX1_truthOfLetter ∈ AW := in_t2 (List.mem_of_getElem? (i := 138) rfl) rfl
theorem aT_X1_truthOfLetter : Cond.static yX1_truthOfLetter ∈ AW := in_t2 (List.mem_of_getElem? (i := 139) rfl) rfl
theorem aC_X1_truthOfLetter : Cond.code yX1_truthOfLetter cX1_truthOfLetter 2 (some .long) ∈ AW := in_t2 (List.mem_of_getElem? (i := 140) rfl) rfl
theorem aF_X1_95 : Cond.fieldLink RX1 95 "ProofDesk$Formulas" "LETTER_WORDS" "[J" ∈ AW := in_t2 (List.mem_of_getElem? (i := 141) rfl) rfl
theorem aK_X1_98 : Cond.constantLong RX1 98 (-1) ∈ AW := in_t2 (List.mem_of_getElem? (i := 143) rfl) rfl
theorem aM_X1_38 : Cond.methodLink RX1 38 yX1_truth ∈ AW := in_t2 (List.mem_of_getElem? (i := 144) rfl) rfl
theorem aI_X1_truth : Cond.instanceMethod yX1_truth ∈ AW := in_t2 (List.mem_of_getElem? (i := 145) rfl) rfl
theorem aS_X1_truth : Cond.selects RX1 yX1_truth yX1_truth ∈ AW := in_t2 (List.mem_of_getElem? (i := 146) rfl) rfl
theorem aC_X1_truth : Cond.code yX1_truth cX1_truth 3 (some .long) ∈ AW := in_t2 (List.mem_of_getElem? (i := 147) rfl) rfl
theorem aM_X1_91 : Cond.methodLink RX1 91 yX1_truthOfParts ∈ AW := in_t2 (List.mem_of_getElem? (i := 148) rfl) rfl
theorem aT_X1_truthOfParts : Cond.static yX1_truthOfParts ∈ AW := in_t2 (List.mem_of_getElem? (i := 149) rfl) rfl
theorem aC_X1_truthOfParts : Cond.code yX1_truthOfParts cX1_truthOfParts 5 (some .long) ∈ AW := in_t2 (List.mem_of_getElem? (i := 150) rfl) rfl
theorem aL_X7_61 : Cond.classLink RX7 61 "java/lang/IllegalStateException" ∈ AW := in_t2 (List.mem_of_getElem? (i := 151) rfl) rfl
theorem aM_L_78 : Cond.methodLink RL 78 yX7_formula ∈ AW := in_t2 (List.mem_of_getElem? (i := 167) rfl) rfl
theorem aI_X7_formula : Cond.instanceMethod yX7_formula ∈ AW := in_t2 (List.mem_of_getElem? (i := 168) rfl) rfl
theorem aS_X7_formula : Cond.selects RX7 yX7_formula yX7_formula ∈ AW := in_t2 (List.mem_of_getElem? (i := 169) rfl) rfl
theorem aC_X7_formula : Cond.code yX7_formula cX7_formula 3 (some .int) ∈ AW := in_t2 (List.mem_of_getElem? (i := 170) rfl) rfl
theorem aM_X7_105 : Cond.methodLink RX7 105 yX1_isKnown ∈ AW := in_t2 (List.mem_of_getElem? (i := 171) rfl) rfl
theorem aM_X7_111 : Cond.methodLink RX7 111 yX1_sort ∈ AW := in_t2 (List.mem_of_getElem? (i := 173) rfl) rfl
theorem aM_X7_115 : Cond.methodLink RX7 115 yX1_first ∈ AW := in_t2 (List.mem_of_getElem? (i := 174) rfl) rfl
theorem aI_X1_first : Cond.instanceMethod yX1_first ∈ AW := in_t2 (List.mem_of_getElem? (i := 175) rfl) rfl
theorem aS_X1_first : Cond.selects RX1 yX1_first yX1_first ∈ AW := in_t2 (List.mem_of_getElem? (i := 176) rfl) rfl
theorem aC_X1_first : Cond.code yX1_first cX1_first 2 (some .int) ∈ AW := in_t2 (List.mem_of_getElem? (i := 177) rfl) rfl
theorem aM_X7_118 : Cond.methodLink RX7 118 yX1_second ∈ AW := in_t2 (List.mem_of_getElem? (i := 178) rfl) rfl
theorem aI_X1_second : Cond.instanceMethod yX1_second ∈ AW := in_t2 (List.mem_of_getElem? (i := 179) rfl) rfl
theorem aS_X1_second : Cond.selects RX1 yX1_second yX1_second ∈ AW := in_t2 (List.mem_of_getElem? (i := 180) rfl) rfl
theorem aC_X1_second : Cond.code yX1_second cX1_second 2 (some .int) ∈ AW := in_t2 (List.mem_of_getElem? (i := 181) rfl) rfl
theorem aM_X7_121 : Cond.methodLink RX7 121 yX1_letters ∈ AW := in_t2 (List.mem_of_getElem? (i := 182) rfl) rfl
theorem aM_X7_124 : Cond.methodLink RX7 124 yX1_trueSets ∈ AW := in_t2 (List.mem_of_getElem? (i := 183) rfl) rfl
theorem aI_X1_trueSets : Cond.instanceMethod yX1_trueSets ∈ AW := in_t2 (List.mem_of_getElem? (i := 184) rfl) rfl
theorem aS_X1_trueSets : Cond.selects RX1 yX1_trueSets yX1_trueSets ∈ AW := in_t2 (List.mem_of_getElem? (i := 185) rfl) rfl
theorem aC_X1_trueSets : Cond.code yX1_trueSets cX1_trueSets 4 (some .int) ∈ AW := in_t2 (List.mem_of_getElem? (i := 186) rfl) rfl
theorem aM_X1_42 : Cond.methodLink RX1 42 yJ13_bitCount_95d88 ∈ AW := in_t2 (List.mem_of_getElem? (i := 187) rfl) rfl
theorem aT_J13_bitCount_95d88 : Cond.static yJ13_bitCount_95d88 ∈ AW := in_t2 (List.mem_of_getElem? (i := 188) rfl) rfl
theorem aC_J13_bitCount_95d88 : Cond.code yJ13_bitCount_95d88 cJ13_bitCount_95d88 2 (some .int) ∈ AW := in_t2 (List.mem_of_getElem? (i := 189) rfl) rfl
theorem aK_J13_314 : Cond.constantLong RJ13 314 (6148914691236517205) ∈ AW := in_t2 (List.mem_of_getElem? (i := 190) rfl) rfl
theorem aK_J13_316 : Cond.constantLong RJ13 316 (3689348814741910323) ∈ AW := in_t2 (List.mem_of_getElem? (i := 191) rfl) rfl
theorem aK_J13_318 : Cond.constantLong RJ13 318 (1085102592571150095) ∈ AW := in_t2 (List.mem_of_getElem? (i := 192) rfl) rfl
theorem aM_X7_127 : Cond.methodLink RX7 127 yX1_size ∈ AW := in_t2 (List.mem_of_getElem? (i := 193) rfl) rfl
theorem aM_L_94 : Cond.methodLink RL 94 yX7_begin ∈ AW := in_t2 (List.mem_of_getElem? (i := 194) rfl) rfl
theorem aI_X7_begin : Cond.instanceMethod yX7_begin ∈ AW := in_t2 (List.mem_of_getElem? (i := 195) rfl) rfl
theorem aS_X7_begin : Cond.selects RX7 yX7_begin yX7_begin ∈ AW := in_t2 (List.mem_of_getElem? (i := 196) rfl) rfl
theorem aC_X7_begin : Cond.code yX7_begin cX7_begin 2 (some .int) ∈ AW := in_t2 (List.mem_of_getElem? (i := 197) rfl) rfl
theorem aM_X7_151 : Cond.methodLink RX7 151 yX3_lineCount ∈ AW := in_t2 (List.mem_of_getElem? (i := 198) rfl) rfl
theorem aI_X3_lineCount : Cond.instanceMethod yX3_lineCount ∈ AW := in_t2 (List.mem_of_getElem? (i := 199) rfl) rfl
theorem aS_X3_lineCount : Cond.selects RX3 yX3_lineCount yX3_lineCount ∈ AW := in_t2 (List.mem_of_getElem? (i := 200) rfl) rfl
theorem aC_X3_lineCount : Cond.code yX3_lineCount cX3_lineCount 1 (some .int) ∈ AW := in_t2 (List.mem_of_getElem? (i := 201) rfl) rfl
theorem aM_X7_154 : Cond.methodLink RX7 154 yX3_clear ∈ AW := in_t2 (List.mem_of_getElem? (i := 202) rfl) rfl
theorem aI_X3_clear : Cond.instanceMethod yX3_clear ∈ AW := in_t2 (List.mem_of_getElem? (i := 203) rfl) rfl
theorem aS_X3_clear : Cond.selects RX3 yX3_clear yX3_clear ∈ AW := in_t2 (List.mem_of_getElem? (i := 204) rfl) rfl
theorem aC_X3_clear : Cond.code yX3_clear cX3_clear 1 none ∈ AW := in_t2 (List.mem_of_getElem? (i := 205) rfl) rfl
theorem aM_X3_82 : Cond.methodLink RX3 82 yX0_clear ∈ AW := in_t2 (List.mem_of_getElem? (i := 206) rfl) rfl
theorem aI_X0_clear : Cond.instanceMethod yX0_clear ∈ AW := in_t2 (List.mem_of_getElem? (i := 207) rfl) rfl
theorem aS_X0_clear : Cond.selects RX0 yX0_clear yX0_clear ∈ AW := in_t2 (List.mem_of_getElem? (i := 208) rfl) rfl
theorem aC_X0_clear : Cond.code yX0_clear cX0_clear 1 none ∈ AW := in_t2 (List.mem_of_getElem? (i := 209) rfl) rfl
theorem aM_L_59 : Cond.methodLink RL 59 yX7_premise ∈ AW := in_t2 (List.mem_of_getElem? (i := 210) rfl) rfl
theorem aI_X7_premise : Cond.instanceMethod yX7_premise ∈ AW := in_t2 (List.mem_of_getElem? (i := 211) rfl) rfl
theorem aS_X7_premise : Cond.selects RX7 yX7_premise yX7_premise ∈ AW := in_t2 (List.mem_of_getElem? (i := 212) rfl) rfl
theorem aC_X7_premise : Cond.code yX7_premise cX7_premise 3 (some .int) ∈ AW := in_t2 (List.mem_of_getElem? (i := 213) rfl) rfl
theorem aM_X7_157 : Cond.methodLink RX7 157 yX3_premiseCount ∈ AW := in_t2 (List.mem_of_getElem? (i := 215) rfl) rfl
theorem aI_X3_premiseCount : Cond.instanceMethod yX3_premiseCount ∈ AW := in_t2 (List.mem_of_getElem? (i := 216) rfl) rfl
theorem aS_X3_premiseCount : Cond.selects RX3 yX3_premiseCount yX3_premiseCount ∈ AW := in_t2 (List.mem_of_getElem? (i := 217) rfl) rfl
theorem aC_X3_premiseCount : Cond.code yX3_premiseCount cX3_premiseCount 3 (some .int) ∈ AW := in_t2 (List.mem_of_getElem? (i := 218) rfl) rfl
theorem aM_X7_162 : Cond.methodLink RX7 162 yX3_add ∈ AW := in_t2 (List.mem_of_getElem? (i := 220) rfl) rfl
theorem aI_X3_add : Cond.instanceMethod yX3_add ∈ AW := in_t2 (List.mem_of_getElem? (i := 221) rfl) rfl
theorem aS_X3_add : Cond.selects RX3 yX3_add yX3_add ∈ AW := in_t2 (List.mem_of_getElem? (i := 222) rfl) rfl
theorem aC_X3_add : Cond.code yX3_add cX3_add 7 (some .int) ∈ AW := in_t2 (List.mem_of_getElem? (i := 223) rfl) rfl
theorem aM_X3_88 : Cond.methodLink RX3 88 yX3_kind ∈ AW := in_t2 (List.mem_of_getElem? (i := 224) rfl) rfl
theorem aI_X3_kind : Cond.instanceMethod yX3_kind ∈ AW := in_t2 (List.mem_of_getElem? (i := 225) rfl) rfl
theorem aS_X3_kind : Cond.selects RX3 yX3_kind yX3_kind ∈ AW := in_t2 (List.mem_of_getElem? (i := 226) rfl) rfl
theorem aC_X3_kind : Cond.code yX3_kind cX3_kind 5 (some .int) ∈ AW := in_t2 (List.mem_of_getElem? (i := 227) rfl) rfl
theorem aM_X3_130 : Cond.methodLink RX3 130 yX6_premises ∈ AW := in_t2 (List.mem_of_getElem? (i := 228) rfl) rfl
theorem aI_X6_premises : Cond.instanceMethod yX6_premises ∈ AW := in_t2 (List.mem_of_getElem? (i := 229) rfl) rfl
theorem aS_X6_premises : Cond.selects RX6 yX6_premises yX6_premises ∈ AW := in_t2 (List.mem_of_getElem? (i := 230) rfl) rfl
theorem aC_X6_premises : Cond.code yX6_premises cX6_premises 2 (some .int) ∈ AW := in_t2 (List.mem_of_getElem? (i := 231) rfl) rfl
theorem aF_X3_135 : Cond.fieldLink RX3 135 "ProofDesk$Rules" "KINDS" "[I" ∈ AW := in_t2 (List.mem_of_getElem? (i := 232) rfl) rfl
theorem aM_X3_92 : Cond.methodLink RX3 92 yX3_refer ∈ AW := in_t2 (List.mem_of_getElem? (i := 234) rfl) rfl
theorem aI_X3_refer : Cond.instanceMethod yX3_refer ∈ AW := in_t2 (List.mem_of_getElem? (i := 236) rfl) rfl
theorem aC_X3_refer : Cond.code yX3_refer cX3_refer 4 none ∈ AW := in_t2 (List.mem_of_getElem? (i := 237) rfl) rfl
theorem aM_X3_96 : Cond.methodLink RX3 96 yX0_innermost ∈ AW := in_t2 (List.mem_of_getElem? (i := 238) rfl) rfl
theorem aI_X0_innermost : Cond.instanceMethod yX0_innermost ∈ AW := in_t2 (List.mem_of_getElem? (i := 239) rfl) rfl
theorem aS_X0_innermost : Cond.selects RX0 yX0_innermost yX0_innermost ∈ AW := in_t3 (List.mem_of_getElem? (i := 0) rfl) rfl
theorem aC_X0_innermost : Cond.code yX0_innermost cX0_innermost 1 (some .int) ∈ AW := in_t3 (List.mem_of_getElem? (i := 1) rfl) rfl
theorem aM_X3_99 : Cond.methodLink RX3 99 yX3_noteDeed ∈ AW := in_t3 (List.mem_of_getElem? (i := 2) rfl) rfl
theorem aI_X3_noteDeed : Cond.instanceMethod yX3_noteDeed ∈ AW := in_t3 (List.mem_of_getElem? (i := 4) rfl) rfl
theorem aC_X3_noteDeed : Cond.code yX3_noteDeed cX3_noteDeed 2 none ∈ AW := in_t3 (List.mem_of_getElem? (i := 5) rfl) rfl
theorem aM_L_53 : Cond.methodLink RL 53 yX7_assume ∈ AW := in_t3 (List.mem_of_getElem? (i := 6) rfl) rfl
theorem aI_X7_assume : Cond.instanceMethod yX7_assume ∈ AW := in_t3 (List.mem_of_getElem? (i := 7) rfl) rfl
theorem aS_X7_assume : Cond.selects RX7 yX7_assume yX7_assume ∈ AW := in_t3 (List.mem_of_getElem? (i := 8) rfl) rfl
theorem aC_X7_assume : Cond.code yX7_assume cX7_assume 2 (some .int) ∈ AW := in_t3 (List.mem_of_getElem? (i := 9) rfl) rfl
theorem aM_X7_166 : Cond.methodLink RX7 166 yX3_openCount ∈ AW := in_t3 (List.mem_of_getElem? (i := 10) rfl) rfl
theorem aI_X3_openCount : Cond.instanceMethod yX3_openCount ∈ AW := in_t3 (List.mem_of_getElem? (i := 11) rfl) rfl
theorem aS_X3_openCount : Cond.selects RX3 yX3_openCount yX3_openCount ∈ AW := in_t3 (List.mem_of_getElem? (i := 12) rfl) rfl
theorem aC_X3_openCount : Cond.code yX3_openCount cX3_openCount 1 (some .int) ∈ AW := in_t3 (List.mem_of_getElem? (i := 13) rfl) rfl
theorem aM_X3_57 : Cond.methodLink RX3 57 yX0_open ∈ AW := in_t3 (List.mem_of_getElem? (i := 14) rfl) rfl
theorem aI_X0_open : Cond.instanceMethod yX0_open ∈ AW := in_t3 (List.mem_of_getElem? (i := 15) rfl) rfl
theorem aS_X0_open : Cond.selects RX0 yX0_open yX0_open ∈ AW := in_t3 (List.mem_of_getElem? (i := 16) rfl) rfl
theorem aC_X0_open : Cond.code yX0_open cX0_open 1 (some .int) ∈ AW := in_t3 (List.mem_of_getElem? (i := 17) rfl) rfl
theorem aM_X7_171 : Cond.methodLink RX7 171 yX3_openBox ∈ AW := in_t3 (List.mem_of_getElem? (i := 19) rfl) rfl
theorem aI_X3_openBox : Cond.instanceMethod yX3_openBox ∈ AW := in_t3 (List.mem_of_getElem? (i := 20) rfl) rfl
theorem aS_X3_openBox : Cond.selects RX3 yX3_openBox yX3_openBox ∈ AW := in_t3 (List.mem_of_getElem? (i := 21) rfl) rfl
theorem aC_X3_openBox : Cond.code yX3_openBox cX3_openBox 1 none ∈ AW := in_t3 (List.mem_of_getElem? (i := 22) rfl) rfl
theorem aM_X3_103 : Cond.methodLink RX3 103 yX0_addAt ∈ AW := in_t3 (List.mem_of_getElem? (i := 23) rfl) rfl
theorem aI_X0_addAt : Cond.instanceMethod yX0_addAt ∈ AW := in_t3 (List.mem_of_getElem? (i := 24) rfl) rfl
theorem aS_X0_addAt : Cond.selects RX0 yX0_addAt yX0_addAt ∈ AW := in_t3 (List.mem_of_getElem? (i := 25) rfl) rfl
theorem aC_X0_addAt : Cond.code yX0_addAt cX0_addAt 2 none ∈ AW := in_t3 (List.mem_of_getElem? (i := 26) rfl) rfl
theorem aM_L_56 : Cond.methodLink RL 56 yX7_close ∈ AW := in_t3 (List.mem_of_getElem? (i := 27) rfl) rfl
theorem aI_X7_close : Cond.instanceMethod yX7_close ∈ AW := in_t3 (List.mem_of_getElem? (i := 28) rfl) rfl
theorem aS_X7_close : Cond.selects RX7 yX7_close yX7_close ∈ AW := in_t3 (List.mem_of_getElem? (i := 29) rfl) rfl
theorem aC_X7_close : Cond.code yX7_close cX7_close 1 (some .int) ∈ AW := in_t3 (List.mem_of_getElem? (i := 30) rfl) rfl
theorem aM_X7_176 : Cond.methodLink RX7 176 yX3_shutBox ∈ AW := in_t3 (List.mem_of_getElem? (i := 32) rfl) rfl
theorem aI_X3_shutBox : Cond.instanceMethod yX3_shutBox ∈ AW := in_t3 (List.mem_of_getElem? (i := 33) rfl) rfl
theorem aS_X3_shutBox : Cond.selects RX3 yX3_shutBox yX3_shutBox ∈ AW := in_t3 (List.mem_of_getElem? (i := 34) rfl) rfl
theorem aC_X3_shutBox : Cond.code yX3_shutBox cX3_shutBox 2 (some .int) ∈ AW := in_t3 (List.mem_of_getElem? (i := 35) rfl) rfl
theorem aM_X3_106 : Cond.methodLink RX3 106 yX3_latestLineOf ∈ AW := in_t3 (List.mem_of_getElem? (i := 36) rfl) rfl
theorem aI_X3_latestLineOf : Cond.instanceMethod yX3_latestLineOf ∈ AW := in_t3 (List.mem_of_getElem? (i := 38) rfl) rfl
theorem aC_X3_latestLineOf : Cond.code yX3_latestLineOf cX3_latestLineOf 3 (some .int) ∈ AW := in_t3 (List.mem_of_getElem? (i := 39) rfl) rfl
theorem aM_X3_112 : Cond.methodLink RX3 112 yJ9_min_7cf53 ∈ AW := in_t3 (List.mem_of_getElem? (i := 40) rfl) rfl
theorem aM_X3_109 : Cond.methodLink RX3 109 yX0_shutAt ∈ AW := in_t3 (List.mem_of_getElem? (i := 41) rfl) rfl
theorem aI_X0_shutAt : Cond.instanceMethod yX0_shutAt ∈ AW := in_t3 (List.mem_of_getElem? (i := 42) rfl) rfl
theorem aS_X0_shutAt : Cond.selects RX0 yX0_shutAt yX0_shutAt ∈ AW := in_t3 (List.mem_of_getElem? (i := 43) rfl) rfl
theorem aC_X0_shutAt : Cond.code yX0_shutAt cX0_shutAt 3 none ∈ AW := in_t3 (List.mem_of_getElem? (i := 44) rfl) rfl
theorem aM_L_65 : Cond.methodLink RL 65 yX7_step ∈ AW := in_t3 (List.mem_of_getElem? (i := 45) rfl) rfl
theorem aI_X7_step : Cond.instanceMethod yX7_step ∈ AW := in_t3 (List.mem_of_getElem? (i := 46) rfl) rfl
theorem aS_X7_step : Cond.selects RX7 yX7_step yX7_step ∈ AW := in_t3 (List.mem_of_getElem? (i := 47) rfl) rfl
theorem aC_X7_step : Cond.code yX7_step cX7_step 7 (some .int) ∈ AW := in_t3 (List.mem_of_getElem? (i := 48) rfl) rfl
theorem aM_X7_183 : Cond.methodLink RX7 183 yX4_refusal ∈ AW := in_t3 (List.mem_of_getElem? (i := 51) rfl) rfl
theorem aI_X4_refusal : Cond.instanceMethod yX4_refusal ∈ AW := in_t3 (List.mem_of_getElem? (i := 52) rfl) rfl
theorem aS_X4_refusal : Cond.selects RX4 yX4_refusal yX4_refusal ∈ AW := in_t3 (List.mem_of_getElem? (i := 53) rfl) rfl
theorem aC_X4_refusal : Cond.code yX4_refusal cX4_refusal 7 (some .int) ∈ AW := in_t3 (List.mem_of_getElem? (i := 54) rfl) rfl
theorem aM_X4_27 : Cond.methodLink RX4 27 yX3_kind ∈ AW := in_t3 (List.mem_of_getElem? (i := 55) rfl) rfl
theorem aM_X4_33 : Cond.methodLink RX4 33 yX4_reaches ∈ AW := in_t3 (List.mem_of_getElem? (i := 56) rfl) rfl
theorem aI_X4_reaches : Cond.instanceMethod yX4_reaches ∈ AW := in_t3 (List.mem_of_getElem? (i := 58) rfl) rfl
theorem aC_X4_reaches : Cond.code yX4_reaches cX4_reaches 3 (some .boolean) ∈ AW := in_t3 (List.mem_of_getElem? (i := 59) rfl) rfl
theorem aM_X4_54 : Cond.methodLink RX4 54 yX3_seesLine ∈ AW := in_t3 (List.mem_of_getElem? (i := 60) rfl) rfl
theorem aI_X3_seesLine : Cond.instanceMethod yX3_seesLine ∈ AW := in_t3 (List.mem_of_getElem? (i := 61) rfl) rfl
theorem aS_X3_seesLine : Cond.selects RX3 yX3_seesLine yX3_seesLine ∈ AW := in_t3 (List.mem_of_getElem? (i := 62) rfl) rfl
theorem aC_X3_seesLine : Cond.code yX3_seesLine cX3_seesLine 2 (some .boolean) ∈ AW := in_t3 (List.mem_of_getElem? (i := 63) rfl) rfl
theorem aM_X3_75 : Cond.methodLink RX3 75 yX0_isOpen ∈ AW := in_t3 (List.mem_of_getElem? (i := 64) rfl) rfl
theorem aI_X0_isOpen : Cond.instanceMethod yX0_isOpen ∈ AW := in_t3 (List.mem_of_getElem? (i := 65) rfl) rfl
theorem aS_X0_isOpen : Cond.selects RX0 yX0_isOpen yX0_isOpen ∈ AW := in_t3 (List.mem_of_getElem? (i := 66) rfl) rfl
theorem aC_X0_isOpen : Cond.code yX0_isOpen cX0_isOpen 2 (some .boolean) ∈ AW := in_t3 (List.mem_of_getElem? (i := 67) rfl) rfl
theorem aM_X4_58 : Cond.methodLink RX4 58 yX3_seesBox ∈ AW := in_t3 (List.mem_of_getElem? (i := 68) rfl) rfl
theorem aI_X3_seesBox : Cond.instanceMethod yX3_seesBox ∈ AW := in_t3 (List.mem_of_getElem? (i := 69) rfl) rfl
theorem aS_X3_seesBox : Cond.selects RX3 yX3_seesBox yX3_seesBox ∈ AW := in_t3 (List.mem_of_getElem? (i := 70) rfl) rfl
theorem aC_X3_seesBox : Cond.code yX3_seesBox cX3_seesBox 2 (some .boolean) ∈ AW := in_t3 (List.mem_of_getElem? (i := 71) rfl) rfl
theorem aM_X3_79 : Cond.methodLink RX3 79 yX0_canBeReferredTo ∈ AW := in_t3 (List.mem_of_getElem? (i := 72) rfl) rfl
theorem aI_X0_canBeReferredTo : Cond.instanceMethod yX0_canBeReferredTo ∈ AW := in_t3 (List.mem_of_getElem? (i := 73) rfl) rfl
theorem aS_X0_canBeReferredTo : Cond.selects RX0 yX0_canBeReferredTo yX0_canBeReferredTo ∈ AW := in_t3 (List.mem_of_getElem? (i := 74) rfl) rfl
theorem aC_X0_canBeReferredTo : Cond.code yX0_canBeReferredTo cX0_canBeReferredTo 2 (some .boolean) ∈ AW := in_t3 (List.mem_of_getElem? (i := 75) rfl) rfl
theorem aM_X0_31 : Cond.methodLink RX0 31 yX0_isOpen ∈ AW := in_t3 (List.mem_of_getElem? (i := 76) rfl) rfl
theorem aM_X4_61 : Cond.methodLink RX4 61 yX6_isKnown ∈ AW := in_t3 (List.mem_of_getElem? (i := 77) rfl) rfl
theorem aI_X6_isKnown : Cond.instanceMethod yX6_isKnown ∈ AW := in_t3 (List.mem_of_getElem? (i := 78) rfl) rfl
theorem aS_X6_isKnown : Cond.selects RX6 yX6_isKnown yX6_isKnown ∈ AW := in_t3 (List.mem_of_getElem? (i := 79) rfl) rfl
theorem aC_X6_isKnown : Cond.code yX6_isKnown cX6_isKnown 2 (some .boolean) ∈ AW := in_t3 (List.mem_of_getElem? (i := 80) rfl) rfl
theorem aM_X4_37 : Cond.methodLink RX4 37 yX4_hasForm ∈ AW := in_t3 (List.mem_of_getElem? (i := 81) rfl) rfl
theorem aI_X4_hasForm : Cond.instanceMethod yX4_hasForm ∈ AW := in_t3 (List.mem_of_getElem? (i := 83) rfl) rfl
theorem aC_X4_hasForm : Cond.code yX4_hasForm cX4_hasForm 5 (some .boolean) ∈ AW := in_t3 (List.mem_of_getElem? (i := 84) rfl) rfl
theorem aM_X4_66 : Cond.methodLink RX4 66 yX3_formulaOf ∈ AW := in_t3 (List.mem_of_getElem? (i := 85) rfl) rfl
theorem aI_X3_formulaOf : Cond.instanceMethod yX3_formulaOf ∈ AW := in_t3 (List.mem_of_getElem? (i := 86) rfl) rfl
theorem aS_X3_formulaOf : Cond.selects RX3 yX3_formulaOf yX3_formulaOf ∈ AW := in_t3 (List.mem_of_getElem? (i := 87) rfl) rfl
theorem aC_X3_formulaOf : Cond.code yX3_formulaOf cX3_formulaOf 2 (some .int) ∈ AW := in_t3 (List.mem_of_getElem? (i := 88) rfl) rfl
theorem aM_X4_70 : Cond.methodLink RX4 70 yX1_sort ∈ AW := in_t3 (List.mem_of_getElem? (i := 89) rfl) rfl
theorem aM_X4_75 : Cond.methodLink RX4 75 yX3_endOf ∈ AW := in_t3 (List.mem_of_getElem? (i := 90) rfl) rfl
theorem aI_X3_endOf : Cond.instanceMethod yX3_endOf ∈ AW := in_t3 (List.mem_of_getElem? (i := 91) rfl) rfl
theorem aS_X3_endOf : Cond.selects RX3 yX3_endOf yX3_endOf ∈ AW := in_t3 (List.mem_of_getElem? (i := 92) rfl) rfl
theorem aC_X3_endOf : Cond.code yX3_endOf cX3_endOf 2 (some .int) ∈ AW := in_t3 (List.mem_of_getElem? (i := 93) rfl) rfl
theorem aM_X3_66 : Cond.methodLink RX3 66 yX0_last ∈ AW := in_t3 (List.mem_of_getElem? (i := 94) rfl) rfl
theorem aI_X0_last : Cond.instanceMethod yX0_last ∈ AW := in_t3 (List.mem_of_getElem? (i := 95) rfl) rfl
theorem aS_X0_last : Cond.selects RX0 yX0_last yX0_last ∈ AW := in_t3 (List.mem_of_getElem? (i := 96) rfl) rfl
theorem aC_X0_last : Cond.code yX0_last cX0_last 2 (some .int) ∈ AW := in_t3 (List.mem_of_getElem? (i := 97) rfl) rfl
theorem aM_X3_72 : Cond.methodLink RX3 72 yX3_formulaOf ∈ AW := in_t3 (List.mem_of_getElem? (i := 98) rfl) rfl
theorem aM_X4_78 : Cond.methodLink RX4 78 yX1_left ∈ AW := in_t3 (List.mem_of_getElem? (i := 99) rfl) rfl
theorem aI_X1_left : Cond.instanceMethod yX1_left ∈ AW := in_t3 (List.mem_of_getElem? (i := 100) rfl) rfl
theorem aS_X1_left : Cond.selects RX1 yX1_left yX1_left ∈ AW := in_t3 (List.mem_of_getElem? (i := 101) rfl) rfl
theorem aC_X1_left : Cond.code yX1_left cX1_left 2 (some .int) ∈ AW := in_t3 (List.mem_of_getElem? (i := 102) rfl) rfl
theorem aM_X4_41 : Cond.methodLink RX4 41 yX4_theoremFits ∈ AW := in_t3 (List.mem_of_getElem? (i := 103) rfl) rfl
theorem aI_X4_theoremFits : Cond.instanceMethod yX4_theoremFits ∈ AW := in_t3 (List.mem_of_getElem? (i := 105) rfl) rfl
theorem aC_X4_theoremFits : Cond.code yX4_theoremFits cX4_theoremFits 8 (some .boolean) ∈ AW := in_t3 (List.mem_of_getElem? (i := 106) rfl) rfl
theorem aM_X4_87 : Cond.methodLink RX4 87 yX6_premises ∈ AW := in_t3 (List.mem_of_getElem? (i := 107) rfl) rfl
theorem aM_X4_90 : Cond.methodLink RX4 90 yX6_saysWithPremises ∈ AW := in_t3 (List.mem_of_getElem? (i := 108) rfl) rfl
theorem aI_X6_saysWithPremises : Cond.instanceMethod yX6_saysWithPremises ∈ AW := in_t3 (List.mem_of_getElem? (i := 109) rfl) rfl
theorem aS_X6_saysWithPremises : Cond.selects RX6 yX6_saysWithPremises yX6_saysWithPremises ∈ AW := in_t3 (List.mem_of_getElem? (i := 110) rfl) rfl
theorem aC_X6_saysWithPremises : Cond.code yX6_saysWithPremises cX6_saysWithPremises 7 (some .boolean) ∈ AW := in_t3 (List.mem_of_getElem? (i := 111) rfl) rfl
theorem aM_X6_45 : Cond.methodLink RX6 45 yJ7_fill_53178 ∈ AW := in_t3 (List.mem_of_getElem? (i := 112) rfl) rfl
theorem aT_J7_fill_53178 : Cond.static yJ7_fill_53178 ∈ AW := in_t3 (List.mem_of_getElem? (i := 113) rfl) rfl
theorem aC_J7_fill_53178 : Cond.code yJ7_fill_53178 cJ7_fill_53178 4 none ∈ AW := in_t3 (List.mem_of_getElem? (i := 114) rfl) rfl
theorem aM_X6_51 : Cond.methodLink RX6 51 yX6_conclusion ∈ AW := in_t3 (List.mem_of_getElem? (i := 115) rfl) rfl
theorem aI_X6_conclusion : Cond.instanceMethod yX6_conclusion ∈ AW := in_t3 (List.mem_of_getElem? (i := 116) rfl) rfl
theorem aS_X6_conclusion : Cond.selects RX6 yX6_conclusion yX6_conclusion ∈ AW := in_t3 (List.mem_of_getElem? (i := 117) rfl) rfl
theorem aC_X6_conclusion : Cond.code yX6_conclusion cX6_conclusion 2 (some .int) ∈ AW := in_t3 (List.mem_of_getElem? (i := 118) rfl) rfl
theorem aM_X6_55 : Cond.methodLink RX6 55 yX6_becomes ∈ AW := in_t3 (List.mem_of_getElem? (i := 119) rfl) rfl
theorem aI_X6_becomes : Cond.instanceMethod yX6_becomes ∈ AW := in_t3 (List.mem_of_getElem? (i := 121) rfl) rfl
theorem aC_X6_becomes : Cond.code yX6_becomes cX6_becomes 3 (some .boolean) ∈ AW := in_t3 (List.mem_of_getElem? (i := 122) rfl) rfl
theorem aM_X6_59 : Cond.methodLink RX6 59 yX6_firstPremise ∈ AW := in_t3 (List.mem_of_getElem? (i := 123) rfl) rfl
theorem aI_X6_firstPremise : Cond.instanceMethod yX6_firstPremise ∈ AW := in_t3 (List.mem_of_getElem? (i := 124) rfl) rfl
theorem aS_X6_firstPremise : Cond.selects RX6 yX6_firstPremise yX6_firstPremise ∈ AW := in_t3 (List.mem_of_getElem? (i := 125) rfl) rfl
theorem aC_X6_firstPremise : Cond.code yX6_firstPremise cX6_firstPremise 2 (some .int) ∈ AW := in_t3 (List.mem_of_getElem? (i := 126) rfl) rfl
theorem aM_X6_62 : Cond.methodLink RX6 62 yX6_secondPremise ∈ AW := in_t3 (List.mem_of_getElem? (i := 127) rfl) rfl
theorem aI_X6_secondPremise : Cond.instanceMethod yX6_secondPremise ∈ AW := in_t3 (List.mem_of_getElem? (i := 128) rfl) rfl
theorem aS_X6_secondPremise : Cond.selects RX6 yX6_secondPremise yX6_secondPremise ∈ AW := in_t3 (List.mem_of_getElem? (i := 129) rfl) rfl
theorem aC_X6_secondPremise : Cond.code yX6_secondPremise cX6_secondPremise 2 (some .int) ∈ AW := in_t3 (List.mem_of_getElem? (i := 130) rfl) rfl
theorem aM_X6_65 : Cond.methodLink RX6 65 yX6_partsBecome ∈ AW := in_t3 (List.mem_of_getElem? (i := 131) rfl) rfl
theorem aI_X6_partsBecome : Cond.instanceMethod yX6_partsBecome ∈ AW := in_t3 (List.mem_of_getElem? (i := 133) rfl) rfl
theorem aC_X6_partsBecome : Cond.code yX6_partsBecome cX6_partsBecome 4 (some .boolean) ∈ AW := in_t3 (List.mem_of_getElem? (i := 134) rfl) rfl
theorem aM_X6_74 : Cond.methodLink RX6 74 yX1_sort ∈ AW := in_t3 (List.mem_of_getElem? (i := 135) rfl) rfl
theorem aM_X6_77 : Cond.methodLink RX6 77 yX1_left ∈ AW := in_t3 (List.mem_of_getElem? (i := 136) rfl) rfl
theorem aM_X6_80 : Cond.methodLink RX6 80 yX1_second ∈ AW := in_t3 (List.mem_of_getElem? (i := 137) rfl) rfl
theorem aM_X4_45 : Cond.methodLink RX4 45 yX4_firstFits ∈ AW := in_t3 (List.mem_of_getElem? (i := 138) rfl) rfl
theorem aI_X4_firstFits : Cond.instanceMethod yX4_firstFits ∈ AW := in_t3 (List.mem_of_getElem? (i := 140) rfl) rfl
theorem aC_X4_firstFits : Cond.code yX4_firstFits cX4_firstFits 6 (some .boolean) ∈ AW := in_t3 (List.mem_of_getElem? (i := 141) rfl) rfl
theorem aM_X4_81 : Cond.methodLink RX4 81 yX1_second ∈ AW := in_t3 (List.mem_of_getElem? (i := 142) rfl) rfl
theorem aM_X4_84 : Cond.methodLink RX4 84 yX3_beginOf ∈ AW := in_t3 (List.mem_of_getElem? (i := 143) rfl) rfl
theorem aI_X3_beginOf : Cond.instanceMethod yX3_beginOf ∈ AW := in_t3 (List.mem_of_getElem? (i := 144) rfl) rfl
theorem aS_X3_beginOf : Cond.selects RX3 yX3_beginOf yX3_beginOf ∈ AW := in_t3 (List.mem_of_getElem? (i := 145) rfl) rfl
theorem aC_X3_beginOf : Cond.code yX3_beginOf cX3_beginOf 2 (some .int) ∈ AW := in_t3 (List.mem_of_getElem? (i := 146) rfl) rfl
theorem aM_X3_62 : Cond.methodLink RX3 62 yX0_first ∈ AW := in_t3 (List.mem_of_getElem? (i := 147) rfl) rfl
theorem aI_X0_first : Cond.instanceMethod yX0_first ∈ AW := in_t3 (List.mem_of_getElem? (i := 148) rfl) rfl
theorem aS_X0_first : Cond.selects RX0 yX0_first yX0_first ∈ AW := in_t3 (List.mem_of_getElem? (i := 149) rfl) rfl
theorem aC_X0_first : Cond.code yX0_first cX0_first 2 (some .int) ∈ AW := in_t3 (List.mem_of_getElem? (i := 150) rfl) rfl
theorem aM_X4_48 : Cond.methodLink RX4 48 yX4_secondFits ∈ AW := in_t3 (List.mem_of_getElem? (i := 151) rfl) rfl
theorem aI_X4_secondFits : Cond.instanceMethod yX4_secondFits ∈ AW := in_t3 (List.mem_of_getElem? (i := 153) rfl) rfl
theorem aC_X4_secondFits : Cond.code yX4_secondFits cX4_secondFits 5 (some .boolean) ∈ AW := in_t3 (List.mem_of_getElem? (i := 154) rfl) rfl
theorem aM_X4_51 : Cond.methodLink RX4 51 yX4_thirdFits ∈ AW := in_t3 (List.mem_of_getElem? (i := 155) rfl) rfl
theorem aI_X4_thirdFits : Cond.instanceMethod yX4_thirdFits ∈ AW := in_t3 (List.mem_of_getElem? (i := 157) rfl) rfl
theorem aC_X4_thirdFits : Cond.code yX4_thirdFits cX4_thirdFits 5 (some .boolean) ∈ AW := in_t3 (List.mem_of_getElem? (i := 158) rfl) rfl
theorem aM_X7_186 : Cond.methodLink RX7 186 yX6_noteUse ∈ AW := in_t3 (List.mem_of_getElem? (i := 159) rfl) rfl
theorem aI_X6_noteUse : Cond.instanceMethod yX6_noteUse ∈ AW := in_t3 (List.mem_of_getElem? (i := 160) rfl) rfl
theorem aS_X6_noteUse : Cond.selects RX6 yX6_noteUse yX6_noteUse ∈ AW := in_t3 (List.mem_of_getElem? (i := 161) rfl) rfl
theorem aC_X6_noteUse : Cond.code yX6_noteUse cX6_noteUse 2 none ∈ AW := in_t3 (List.mem_of_getElem? (i := 162) rfl) rfl
theorem aM_L_72 : Cond.methodLink RL 72 yX7_undo ∈ AW := in_t3 (List.mem_of_getElem? (i := 163) rfl) rfl
theorem aI_X7_undo : Cond.instanceMethod yX7_undo ∈ AW := in_t3 (List.mem_of_getElem? (i := 164) rfl) rfl
theorem aS_X7_undo : Cond.selects RX7 yX7_undo yX7_undo ∈ AW := in_t3 (List.mem_of_getElem? (i := 165) rfl) rfl
theorem aC_X7_undo : Cond.code yX7_undo cX7_undo 1 (some .int) ∈ AW := in_t3 (List.mem_of_getElem? (i := 166) rfl) rfl
theorem aM_X7_189 : Cond.methodLink RX7 189 yX3_wasBegun ∈ AW := in_t3 (List.mem_of_getElem? (i := 167) rfl) rfl
theorem aI_X3_wasBegun : Cond.instanceMethod yX3_wasBegun ∈ AW := in_t3 (List.mem_of_getElem? (i := 168) rfl) rfl
theorem aS_X3_wasBegun : Cond.selects RX3 yX3_wasBegun yX3_wasBegun ∈ AW := in_t3 (List.mem_of_getElem? (i := 169) rfl) rfl
theorem aC_X3_wasBegun : Cond.code yX3_wasBegun cX3_wasBegun 1 (some .boolean) ∈ AW := in_t3 (List.mem_of_getElem? (i := 170) rfl) rfl
theorem aM_X7_195 : Cond.methodLink RX7 195 yX3_takeBack ∈ AW := in_t3 (List.mem_of_getElem? (i := 172) rfl) rfl
theorem aI_X3_takeBack : Cond.instanceMethod yX3_takeBack ∈ AW := in_t3 (List.mem_of_getElem? (i := 173) rfl) rfl
theorem aS_X3_takeBack : Cond.selects RX3 yX3_takeBack yX3_takeBack ∈ AW := in_t3 (List.mem_of_getElem? (i := 174) rfl) rfl
theorem aC_X3_takeBack : Cond.code yX3_takeBack cX3_takeBack 2 none ∈ AW := in_t3 (List.mem_of_getElem? (i := 175) rfl) rfl
theorem aM_X3_118 : Cond.methodLink RX3 118 yX0_reopen ∈ AW := in_t3 (List.mem_of_getElem? (i := 176) rfl) rfl
theorem aI_X0_reopen : Cond.instanceMethod yX0_reopen ∈ AW := in_t3 (List.mem_of_getElem? (i := 177) rfl) rfl
theorem aS_X0_reopen : Cond.selects RX0 yX0_reopen yX0_reopen ∈ AW := in_t3 (List.mem_of_getElem? (i := 178) rfl) rfl
theorem aC_X0_reopen : Cond.code yX0_reopen cX0_reopen 2 none ∈ AW := in_t3 (List.mem_of_getElem? (i := 179) rfl) rfl
theorem aM_X3_121 : Cond.methodLink RX3 121 yX3_ruleOf ∈ AW := in_t3 (List.mem_of_getElem? (i := 180) rfl) rfl
theorem aI_X3_ruleOf : Cond.instanceMethod yX3_ruleOf ∈ AW := in_t3 (List.mem_of_getElem? (i := 181) rfl) rfl
theorem aS_X3_ruleOf : Cond.selects RX3 yX3_ruleOf yX3_ruleOf ∈ AW := in_t3 (List.mem_of_getElem? (i := 182) rfl) rfl
theorem aC_X3_ruleOf : Cond.code yX3_ruleOf cX3_ruleOf 2 (some .int) ∈ AW := in_t3 (List.mem_of_getElem? (i := 183) rfl) rfl
theorem aM_X3_124 : Cond.methodLink RX3 124 yX0_dropLatest ∈ AW := in_t3 (List.mem_of_getElem? (i := 184) rfl) rfl
theorem aI_X0_dropLatest : Cond.instanceMethod yX0_dropLatest ∈ AW := in_t3 (List.mem_of_getElem? (i := 185) rfl) rfl
theorem aS_X0_dropLatest : Cond.selects RX0 yX0_dropLatest yX0_dropLatest ∈ AW := in_t3 (List.mem_of_getElem? (i := 186) rfl) rfl
theorem aC_X0_dropLatest : Cond.code yX0_dropLatest cX0_dropLatest 2 none ∈ AW := in_t3 (List.mem_of_getElem? (i := 187) rfl) rfl
theorem aM_X3_127 : Cond.methodLink RX3 127 yJ9_max_7cf53 ∈ AW := in_t3 (List.mem_of_getElem? (i := 188) rfl) rfl
theorem aT_J9_max_7cf53 : Cond.static yJ9_max_7cf53 ∈ AW := in_t3 (List.mem_of_getElem? (i := 189) rfl) rfl
theorem aC_J9_max_7cf53 : Cond.code yJ9_max_7cf53 cJ9_max_7cf53 2 (some .int) ∈ AW := in_t3 (List.mem_of_getElem? (i := 190) rfl) rfl
theorem aM_L_45 : Cond.methodLink RL 45 yX7_count ∈ AW := in_t3 (List.mem_of_getElem? (i := 191) rfl) rfl
theorem aI_X7_count : Cond.instanceMethod yX7_count ∈ AW := in_t3 (List.mem_of_getElem? (i := 192) rfl) rfl
theorem aS_X7_count : Cond.selects RX7 yX7_count yX7_count ∈ AW := in_t3 (List.mem_of_getElem? (i := 193) rfl) rfl
theorem aC_X7_count : Cond.code yX7_count cX7_count 2 (some .int) ∈ AW := in_t3 (List.mem_of_getElem? (i := 194) rfl) rfl
theorem aM_X7_198 : Cond.methodLink RX7 198 yX1_known ∈ AW := in_t3 (List.mem_of_getElem? (i := 195) rfl) rfl
theorem aI_X1_known : Cond.instanceMethod yX1_known ∈ AW := in_t3 (List.mem_of_getElem? (i := 196) rfl) rfl
theorem aS_X1_known : Cond.selects RX1 yX1_known yX1_known ∈ AW := in_t3 (List.mem_of_getElem? (i := 197) rfl) rfl
theorem aC_X1_known : Cond.code yX1_known cX1_known 1 (some .int) ∈ AW := in_t3 (List.mem_of_getElem? (i := 198) rfl) rfl
theorem aM_X7_57 : Cond.methodLink RX7 57 yX5_size ∈ AW := in_t3 (List.mem_of_getElem? (i := 199) rfl) rfl
theorem aI_X5_size : Cond.instanceMethod yX5_size ∈ AW := in_t3 (List.mem_of_getElem? (i := 200) rfl) rfl
theorem aS_X5_size : Cond.selects RX5 yX5_size yX5_size ∈ AW := in_t3 (List.mem_of_getElem? (i := 201) rfl) rfl
theorem aC_X5_size : Cond.code yX5_size cX5_size 1 (some .int) ∈ AW := in_t3 (List.mem_of_getElem? (i := 202) rfl) rfl
theorem aM_X7_145 : Cond.methodLink RX7 145 yX2_size ∈ AW := in_t3 (List.mem_of_getElem? (i := 203) rfl) rfl
theorem aI_X2_size : Cond.instanceMethod yX2_size ∈ AW := in_t3 (List.mem_of_getElem? (i := 204) rfl) rfl
theorem aS_X2_size : Cond.selects RX2 yX2_size yX2_size ∈ AW := in_t3 (List.mem_of_getElem? (i := 205) rfl) rfl
theorem aC_X2_size : Cond.code yX2_size cX2_size 1 (some .int) ∈ AW := in_t3 (List.mem_of_getElem? (i := 206) rfl) rfl
theorem aM_X7_201 : Cond.methodLink RX7 201 yX3_boxCount ∈ AW := in_t3 (List.mem_of_getElem? (i := 207) rfl) rfl
theorem aI_X3_boxCount : Cond.instanceMethod yX3_boxCount ∈ AW := in_t3 (List.mem_of_getElem? (i := 208) rfl) rfl
theorem aS_X3_boxCount : Cond.selects RX3 yX3_boxCount yX3_boxCount ∈ AW := in_t3 (List.mem_of_getElem? (i := 209) rfl) rfl
theorem aC_X3_boxCount : Cond.code yX3_boxCount cX3_boxCount 1 (some .int) ∈ AW := in_t3 (List.mem_of_getElem? (i := 210) rfl) rfl
theorem aM_X3_53 : Cond.methodLink RX3 53 yX0_known ∈ AW := in_t3 (List.mem_of_getElem? (i := 211) rfl) rfl
theorem aI_X0_known : Cond.instanceMethod yX0_known ∈ AW := in_t3 (List.mem_of_getElem? (i := 212) rfl) rfl
theorem aS_X0_known : Cond.selects RX0 yX0_known yX0_known ∈ AW := in_t3 (List.mem_of_getElem? (i := 213) rfl) rfl
theorem aC_X0_known : Cond.code yX0_known cX0_known 1 (some .int) ∈ AW := in_t3 (List.mem_of_getElem? (i := 214) rfl) rfl
theorem aM_X7_204 : Cond.methodLink RX7 204 yX6_known ∈ AW := in_t3 (List.mem_of_getElem? (i := 215) rfl) rfl
theorem aI_X6_known : Cond.instanceMethod yX6_known ∈ AW := in_t3 (List.mem_of_getElem? (i := 216) rfl) rfl
theorem aS_X6_known : Cond.selects RX6 yX6_known yX6_known ∈ AW := in_t3 (List.mem_of_getElem? (i := 217) rfl) rfl
theorem aC_X6_known : Cond.code yX6_known cX6_known 1 (some .int) ∈ AW := in_t3 (List.mem_of_getElem? (i := 218) rfl) rfl
theorem aM_X7_205 : Cond.methodLink RX7 205 yX3_neededCount ∈ AW := in_t3 (List.mem_of_getElem? (i := 219) rfl) rfl
theorem aI_X3_neededCount : Cond.instanceMethod yX3_neededCount ∈ AW := in_t3 (List.mem_of_getElem? (i := 220) rfl) rfl
theorem aS_X3_neededCount : Cond.selects RX3 yX3_neededCount yX3_neededCount ∈ AW := in_t3 (List.mem_of_getElem? (i := 221) rfl) rfl
theorem aC_X3_neededCount : Cond.code yX3_neededCount cX3_neededCount 4 (some .int) ∈ AW := in_t3 (List.mem_of_getElem? (i := 222) rfl) rfl
theorem aM_X3_141 : Cond.methodLink RX3 141 yX3_markReferences ∈ AW := in_t3 (List.mem_of_getElem? (i := 223) rfl) rfl
theorem aI_X3_markReferences : Cond.instanceMethod yX3_markReferences ∈ AW := in_t3 (List.mem_of_getElem? (i := 225) rfl) rfl
theorem aC_X3_markReferences : Cond.code yX3_markReferences cX3_markReferences 3 none ∈ AW := in_t3 (List.mem_of_getElem? (i := 226) rfl) rfl
theorem aM_X3_144 : Cond.methodLink RX3 144 yX3_mark ∈ AW := in_t3 (List.mem_of_getElem? (i := 227) rfl) rfl
theorem aI_X3_mark : Cond.instanceMethod yX3_mark ∈ AW := in_t3 (List.mem_of_getElem? (i := 229) rfl) rfl
theorem aC_X3_mark : Cond.code yX3_mark cX3_mark 2 none ∈ AW := in_t3 (List.mem_of_getElem? (i := 230) rfl) rfl
theorem aM_L_69 : Cond.methodLink RL 69 yX7_line ∈ AW := in_t3 (List.mem_of_getElem? (i := 232) rfl) rfl
theorem aI_X7_line : Cond.instanceMethod yX7_line ∈ AW := in_t3 (List.mem_of_getElem? (i := 233) rfl) rfl
theorem aS_X7_line : Cond.selects RX7 yX7_line yX7_line ∈ AW := in_t3 (List.mem_of_getElem? (i := 234) rfl) rfl
theorem aC_X7_line : Cond.code yX7_line cX7_line 3 (some .int) ∈ AW := in_t3 (List.mem_of_getElem? (i := 235) rfl) rfl
theorem aM_X7_212 : Cond.methodLink RX7 212 yX3_formulaOf ∈ AW := in_t3 (List.mem_of_getElem? (i := 237) rfl) rfl
theorem aM_X7_215 : Cond.methodLink RX7 215 yX3_ruleOf ∈ AW := in_t3 (List.mem_of_getElem? (i := 238) rfl) rfl
theorem aM_X7_218 : Cond.methodLink RX7 218 yX3_boxOf ∈ AW := in_t3 (List.mem_of_getElem? (i := 239) rfl) rfl
theorem aI_X3_boxOf : Cond.instanceMethod yX3_boxOf ∈ AW := in_t4 (List.mem_of_getElem? (i := 0) rfl) rfl
theorem aS_X3_boxOf : Cond.selects RX3 yX3_boxOf yX3_boxOf ∈ AW := in_t4 (List.mem_of_getElem? (i := 1) rfl) rfl
theorem aC_X3_boxOf : Cond.code yX3_boxOf cX3_boxOf 2 (some .int) ∈ AW := in_t4 (List.mem_of_getElem? (i := 2) rfl) rfl
theorem aM_X7_221 : Cond.methodLink RX7 221 yX3_seesLine ∈ AW := in_t4 (List.mem_of_getElem? (i := 3) rfl) rfl
theorem aM_X7_224 : Cond.methodLink RX7 224 yX3_isNeeded ∈ AW := in_t4 (List.mem_of_getElem? (i := 4) rfl) rfl
theorem aI_X3_isNeeded : Cond.instanceMethod yX3_isNeeded ∈ AW := in_t4 (List.mem_of_getElem? (i := 5) rfl) rfl
theorem aS_X3_isNeeded : Cond.selects RX3 yX3_isNeeded yX3_isNeeded ∈ AW := in_t4 (List.mem_of_getElem? (i := 6) rfl) rfl
theorem aC_X3_isNeeded : Cond.code yX3_isNeeded cX3_isNeeded 2 (some .boolean) ∈ AW := in_t4 (List.mem_of_getElem? (i := 7) rfl) rfl
theorem aM_X3_138 : Cond.methodLink RX3 138 yX3_neededCount ∈ AW := in_t4 (List.mem_of_getElem? (i := 8) rfl) rfl
theorem aM_X7_227 : Cond.methodLink RX7 227 yX3_reference ∈ AW := in_t4 (List.mem_of_getElem? (i := 9) rfl) rfl
theorem aI_X3_reference : Cond.instanceMethod yX3_reference ∈ AW := in_t4 (List.mem_of_getElem? (i := 10) rfl) rfl
theorem aS_X3_reference : Cond.selects RX3 yX3_reference yX3_reference ∈ AW := in_t4 (List.mem_of_getElem? (i := 11) rfl) rfl
theorem aC_X3_reference : Cond.code yX3_reference cX3_reference 3 (some .int) ∈ AW := in_t4 (List.mem_of_getElem? (i := 12) rfl) rfl
theorem aM_L_75 : Cond.methodLink RL 75 yX7_fails ∈ AW := in_t4 (List.mem_of_getElem? (i := 13) rfl) rfl
theorem aI_X7_fails : Cond.instanceMethod yX7_fails ∈ AW := in_t4 (List.mem_of_getElem? (i := 14) rfl) rfl
theorem aS_X7_fails : Cond.selects RX7 yX7_fails yX7_fails ∈ AW := in_t4 (List.mem_of_getElem? (i := 15) rfl) rfl
theorem aC_X7_fails : Cond.code yX7_fails cX7_fails 2 (some .int) ∈ AW := in_t4 (List.mem_of_getElem? (i := 16) rfl) rfl
theorem aM_X7_247 : Cond.methodLink RX7 247 yX3_failures ∈ AW := in_t4 (List.mem_of_getElem? (i := 18) rfl) rfl
theorem aI_X3_failures : Cond.instanceMethod yX3_failures ∈ AW := in_t4 (List.mem_of_getElem? (i := 19) rfl) rfl
theorem aS_X3_failures : Cond.selects RX3 yX3_failures yX3_failures ∈ AW := in_t4 (List.mem_of_getElem? (i := 20) rfl) rfl
theorem aC_X3_failures : Cond.code yX3_failures cX3_failures 4 (some .int) ∈ AW := in_t4 (List.mem_of_getElem? (i := 21) rfl) rfl
theorem aM_X3_149 : Cond.methodLink RX3 149 yX3_failuresIn ∈ AW := in_t4 (List.mem_of_getElem? (i := 22) rfl) rfl
theorem aI_X3_failuresIn : Cond.instanceMethod yX3_failuresIn ∈ AW := in_t4 (List.mem_of_getElem? (i := 24) rfl) rfl
theorem aC_X3_failuresIn : Cond.code yX3_failuresIn cX3_failuresIn 8 (some .long) ∈ AW := in_t4 (List.mem_of_getElem? (i := 25) rfl) rfl
theorem aM_X3_159 : Cond.methodLink RX3 159 yX1_truth ∈ AW := in_t4 (List.mem_of_getElem? (i := 26) rfl) rfl
theorem aK_X3_162 : Cond.constantLong RX3 162 (-1) ∈ AW := in_t4 (List.mem_of_getElem? (i := 27) rfl) rfl
theorem aM_X3_164 : Cond.methodLink RX3 164 yX3_premiseCount ∈ AW := in_t4 (List.mem_of_getElem? (i := 28) rfl) rfl
theorem aM_X3_167 : Cond.methodLink RX3 167 yX3_boxOf ∈ AW := in_t4 (List.mem_of_getElem? (i := 29) rfl) rfl
theorem aM_X3_170 : Cond.methodLink RX3 170 yX3_beginOf ∈ AW := in_t4 (List.mem_of_getElem? (i := 30) rfl) rfl
theorem aM_X3_69 : Cond.methodLink RX3 69 yX0_outer ∈ AW := in_t4 (List.mem_of_getElem? (i := 31) rfl) rfl
theorem aI_X0_outer : Cond.instanceMethod yX0_outer ∈ AW := in_t4 (List.mem_of_getElem? (i := 32) rfl) rfl
theorem aS_X0_outer : Cond.selects RX0 yX0_outer yX0_outer ∈ AW := in_t4 (List.mem_of_getElem? (i := 33) rfl) rfl
theorem aC_X0_outer : Cond.code yX0_outer cX0_outer 2 (some .int) ∈ AW := in_t4 (List.mem_of_getElem? (i := 34) rfl) rfl
theorem aM_X3_153 : Cond.methodLink RX3 153 yJ13_bitCount_95d88 ∈ AW := in_t4 (List.mem_of_getElem? (i := 35) rfl) rfl
theorem aM_L_62 : Cond.methodLink RL 62 yX7_hint ∈ AW := in_t4 (List.mem_of_getElem? (i := 36) rfl) rfl
theorem aI_X7_hint : Cond.instanceMethod yX7_hint ∈ AW := in_t4 (List.mem_of_getElem? (i := 37) rfl) rfl
theorem aS_X7_hint : Cond.selects RX7 yX7_hint yX7_hint ∈ AW := in_t4 (List.mem_of_getElem? (i := 38) rfl) rfl
theorem aC_X7_hint : Cond.code yX7_hint cX7_hint 4 (some .int) ∈ AW := in_t4 (List.mem_of_getElem? (i := 39) rfl) rfl
theorem aM_X7_250 : Cond.methodLink RX7 250 yX4_search ∈ AW := in_t4 (List.mem_of_getElem? (i := 40) rfl) rfl
theorem aI_X4_search : Cond.instanceMethod yX4_search ∈ AW := in_t4 (List.mem_of_getElem? (i := 41) rfl) rfl
theorem aS_X4_search : Cond.selects RX4 yX4_search yX4_search ∈ AW := in_t4 (List.mem_of_getElem? (i := 42) rfl) rfl
theorem aC_X4_search : Cond.code yX4_search cX4_search 6 (some .boolean) ∈ AW := in_t4 (List.mem_of_getElem? (i := 43) rfl) rfl
theorem aM_X4_93 : Cond.methodLink RX4 93 yX4_choices ∈ AW := in_t4 (List.mem_of_getElem? (i := 44) rfl) rfl
theorem aI_X4_choices : Cond.instanceMethod yX4_choices ∈ AW := in_t4 (List.mem_of_getElem? (i := 46) rfl) rfl
theorem aC_X4_choices : Cond.code yX4_choices cX4_choices 3 (some .int) ∈ AW := in_t4 (List.mem_of_getElem? (i := 47) rfl) rfl
theorem aM_X4_105 : Cond.methodLink RX4 105 yX3_lineCount ∈ AW := in_t4 (List.mem_of_getElem? (i := 48) rfl) rfl
theorem aM_X4_109 : Cond.methodLink RX4 109 yX3_boxCount ∈ AW := in_t4 (List.mem_of_getElem? (i := 49) rfl) rfl
theorem aM_X4_97 : Cond.methodLink RX4 97 yX4_refusal ∈ AW := in_t4 (List.mem_of_getElem? (i := 50) rfl) rfl
theorem aM_X4_101 : Cond.methodLink RX4 101 yX4_keep ∈ AW := in_t4 (List.mem_of_getElem? (i := 51) rfl) rfl
theorem aI_X4_keep : Cond.instanceMethod yX4_keep ∈ AW := in_t4 (List.mem_of_getElem? (i := 53) rfl) rfl
theorem aC_X4_keep : Cond.code yX4_keep cX4_keep 5 none ∈ AW := in_t4 (List.mem_of_getElem? (i := 54) rfl) rfl
theorem aM_X7_254 : Cond.methodLink RX7 254 yX4_found ∈ AW := in_t4 (List.mem_of_getElem? (i := 55) rfl) rfl
theorem aI_X4_found : Cond.instanceMethod yX4_found ∈ AW := in_t4 (List.mem_of_getElem? (i := 56) rfl) rfl
theorem aS_X4_found : Cond.selects RX4 yX4_found yX4_found ∈ AW := in_t4 (List.mem_of_getElem? (i := 57) rfl) rfl
theorem aC_X4_found : Cond.code yX4_found cX4_found 2 (some .int) ∈ AW := in_t4 (List.mem_of_getElem? (i := 58) rfl) rfl
theorem aM_L_81 : Cond.methodLink RL 81 yX7_end ∈ AW := in_t4 (List.mem_of_getElem? (i := 59) rfl) rfl
theorem aI_X7_end : Cond.instanceMethod yX7_end ∈ AW := in_t4 (List.mem_of_getElem? (i := 60) rfl) rfl
theorem aS_X7_end : Cond.selects RX7 yX7_end yX7_end ∈ AW := in_t4 (List.mem_of_getElem? (i := 61) rfl) rfl
theorem aC_X7_end : Cond.code yX7_end cX7_end 6 (some .int) ∈ AW := in_t4 (List.mem_of_getElem? (i := 62) rfl) rfl
theorem aM_X7_261 : Cond.methodLink RX7 261 yX6_add ∈ AW := in_t4 (List.mem_of_getElem? (i := 65) rfl) rfl
theorem aI_X6_add : Cond.instanceMethod yX6_add ∈ AW := in_t4 (List.mem_of_getElem? (i := 66) rfl) rfl
theorem aS_X6_add : Cond.selects RX6 yX6_add yX6_add ∈ AW := in_t4 (List.mem_of_getElem? (i := 67) rfl) rfl
theorem aC_X6_add : Cond.code yX6_add cX6_add 7 (some .int) ∈ AW := in_t4 (List.mem_of_getElem? (i := 68) rfl) rfl
theorem aM_L_84 : Cond.methodLink RL 84 yX7_theorem ∈ AW := in_t4 (List.mem_of_getElem? (i := 69) rfl) rfl
theorem aI_X7_theorem : Cond.instanceMethod yX7_theorem ∈ AW := in_t4 (List.mem_of_getElem? (i := 70) rfl) rfl
theorem aS_X7_theorem : Cond.selects RX7 yX7_theorem yX7_theorem ∈ AW := in_t4 (List.mem_of_getElem? (i := 71) rfl) rfl
theorem aC_X7_theorem : Cond.code yX7_theorem cX7_theorem 3 (some .int) ∈ AW := in_t4 (List.mem_of_getElem? (i := 72) rfl) rfl
theorem aM_X7_262 : Cond.methodLink RX7 262 yX6_isKnown ∈ AW := in_t4 (List.mem_of_getElem? (i := 73) rfl) rfl
theorem aM_X7_265 : Cond.methodLink RX7 265 yX6_conclusion ∈ AW := in_t4 (List.mem_of_getElem? (i := 75) rfl) rfl
theorem aM_X7_268 : Cond.methodLink RX7 268 yX6_premises ∈ AW := in_t4 (List.mem_of_getElem? (i := 76) rfl) rfl
theorem aM_X7_271 : Cond.methodLink RX7 271 yX6_firstPremise ∈ AW := in_t4 (List.mem_of_getElem? (i := 77) rfl) rfl
theorem aM_X7_274 : Cond.methodLink RX7 274 yX6_secondPremise ∈ AW := in_t4 (List.mem_of_getElem? (i := 78) rfl) rfl
theorem aM_X7_277 : Cond.methodLink RX7 277 yX6_lines ∈ AW := in_t4 (List.mem_of_getElem? (i := 79) rfl) rfl
theorem aI_X6_lines : Cond.instanceMethod yX6_lines ∈ AW := in_t4 (List.mem_of_getElem? (i := 80) rfl) rfl
theorem aS_X6_lines : Cond.selects RX6 yX6_lines yX6_lines ∈ AW := in_t4 (List.mem_of_getElem? (i := 81) rfl) rfl
theorem aC_X6_lines : Cond.code yX6_lines cX6_lines 2 (some .int) ∈ AW := in_t4 (List.mem_of_getElem? (i := 82) rfl) rfl
theorem aM_X7_280 : Cond.methodLink RX7 280 yX6_needed ∈ AW := in_t4 (List.mem_of_getElem? (i := 83) rfl) rfl
theorem aI_X6_needed : Cond.instanceMethod yX6_needed ∈ AW := in_t4 (List.mem_of_getElem? (i := 84) rfl) rfl
theorem aS_X6_needed : Cond.selects RX6 yX6_needed yX6_needed ∈ AW := in_t4 (List.mem_of_getElem? (i := 85) rfl) rfl
theorem aC_X6_needed : Cond.code yX6_needed cX6_needed 2 (some .int) ∈ AW := in_t4 (List.mem_of_getElem? (i := 86) rfl) rfl
theorem aM_X7_283 : Cond.methodLink RX7 283 yX6_uses ∈ AW := in_t4 (List.mem_of_getElem? (i := 87) rfl) rfl
theorem aI_X6_uses : Cond.instanceMethod yX6_uses ∈ AW := in_t4 (List.mem_of_getElem? (i := 88) rfl) rfl
theorem aS_X6_uses : Cond.selects RX6 yX6_uses yX6_uses ∈ AW := in_t4 (List.mem_of_getElem? (i := 89) rfl) rfl
theorem aC_X6_uses : Cond.code yX6_uses cX6_uses 2 (some .int) ∈ AW := in_t4 (List.mem_of_getElem? (i := 90) rfl) rfl
theorem aM_L_87 : Cond.methodLink RL 87 yX7_instance ∈ AW := in_t4 (List.mem_of_getElem? (i := 91) rfl) rfl
theorem aI_X7_instance : Cond.instanceMethod yX7_instance ∈ AW := in_t4 (List.mem_of_getElem? (i := 92) rfl) rfl
theorem aS_X7_instance : Cond.selects RX7 yX7_instance yX7_instance ∈ AW := in_t4 (List.mem_of_getElem? (i := 93) rfl) rfl
theorem aC_X7_instance : Cond.code yX7_instance cX7_instance 4 (some .int) ∈ AW := in_t4 (List.mem_of_getElem? (i := 94) rfl) rfl
theorem aM_X7_288 : Cond.methodLink RX7 288 yX6_concludes ∈ AW := in_t4 (List.mem_of_getElem? (i := 96) rfl) rfl
theorem aI_X6_concludes : Cond.instanceMethod yX6_concludes ∈ AW := in_t4 (List.mem_of_getElem? (i := 97) rfl) rfl
theorem aS_X6_concludes : Cond.selects RX6 yX6_concludes yX6_concludes ∈ AW := in_t4 (List.mem_of_getElem? (i := 98) rfl) rfl
theorem aC_X6_concludes : Cond.code yX6_concludes cX6_concludes 3 (some .boolean) ∈ AW := in_t4 (List.mem_of_getElem? (i := 99) rfl) rfl
theorem aM_X6_41 : Cond.methodLink RX6 41 yX6_saysWithPremises ∈ AW := in_t4 (List.mem_of_getElem? (i := 100) rfl) rfl
theorem aM_X7_291 : Cond.methodLink RX7 291 yX6_imageOfLetter ∈ AW := in_t4 (List.mem_of_getElem? (i := 101) rfl) rfl
theorem aI_X6_imageOfLetter : Cond.instanceMethod yX6_imageOfLetter ∈ AW := in_t4 (List.mem_of_getElem? (i := 102) rfl) rfl
theorem aS_X6_imageOfLetter : Cond.selects RX6 yX6_imageOfLetter yX6_imageOfLetter ∈ AW := in_t4 (List.mem_of_getElem? (i := 103) rfl) rfl
theorem aC_X6_imageOfLetter : Cond.code yX6_imageOfLetter cX6_imageOfLetter 3 (some .int) ∈ AW := in_t4 (List.mem_of_getElem? (i := 104) rfl) rfl
theorem aM_X6_68 : Cond.methodLink RX6 68 yX1_find ∈ AW := in_t4 (List.mem_of_getElem? (i := 105) rfl) rfl
theorem aM_L_90 : Cond.methodLink RL 90 yX7_thrift ∈ AW := in_t4 (List.mem_of_getElem? (i := 106) rfl) rfl
theorem aI_X7_thrift : Cond.instanceMethod yX7_thrift ∈ AW := in_t4 (List.mem_of_getElem? (i := 107) rfl) rfl
theorem aS_X7_thrift : Cond.selects RX7 yX7_thrift yX7_thrift ∈ AW := in_t4 (List.mem_of_getElem? (i := 108) rfl) rfl
theorem aC_X7_thrift : Cond.code yX7_thrift cX7_thrift 1 (some .double) ∈ AW := in_t4 (List.mem_of_getElem? (i := 109) rfl) rfl
theorem aM_X7_294 : Cond.methodLink RX7 294 yX6_neededShare ∈ AW := in_t4 (List.mem_of_getElem? (i := 110) rfl) rfl
theorem aI_X6_neededShare : Cond.instanceMethod yX6_neededShare ∈ AW := in_t4 (List.mem_of_getElem? (i := 111) rfl) rfl
theorem aS_X6_neededShare : Cond.selects RX6 yX6_neededShare yX6_neededShare ∈ AW := in_t4 (List.mem_of_getElem? (i := 112) rfl) rfl
theorem aC_X6_neededShare : Cond.code yX6_neededShare cX6_neededShare 4 (some .double) ∈ AW := in_t4 (List.mem_of_getElem? (i := 113) rfl) rfl
theorem aM_L_49 : Cond.methodLink RL 49 yX7_digest ∈ AW := in_t4 (List.mem_of_getElem? (i := 114) rfl) rfl
theorem aI_X7_digest : Cond.instanceMethod yX7_digest ∈ AW := in_t4 (List.mem_of_getElem? (i := 115) rfl) rfl
theorem aS_X7_digest : Cond.selects RX7 yX7_digest yX7_digest ∈ AW := in_t4 (List.mem_of_getElem? (i := 116) rfl) rfl
theorem aC_X7_digest : Cond.code yX7_digest cX7_digest 4 (some .long) ∈ AW := in_t4 (List.mem_of_getElem? (i := 117) rfl) rfl
theorem aK_X7_298 : Cond.constantLong RX7 298 (419) ∈ AW := in_t4 (List.mem_of_getElem? (i := 118) rfl) rfl
theorem aK_X7_300 : Cond.constantLong RX7 300 (31) ∈ AW := in_t4 (List.mem_of_getElem? (i := 119) rfl) rfl
theorem aM_X7_302 : Cond.methodLink RX7 302 yX7_count ∈ AW := in_t4 (List.mem_of_getElem? (i := 120) rfl) rfl
theorem aM_X7_305 : Cond.methodLink RX7 305 yX7_withFormulas ∈ AW := in_t4 (List.mem_of_getElem? (i := 121) rfl) rfl
theorem aI_X7_withFormulas : Cond.instanceMethod yX7_withFormulas ∈ AW := in_t4 (List.mem_of_getElem? (i := 123) rfl) rfl
theorem aC_X7_withFormulas : Cond.code yX7_withFormulas cX7_withFormulas 6 (some .long) ∈ AW := in_t4 (List.mem_of_getElem? (i := 124) rfl) rfl
theorem aM_X7_309 : Cond.methodLink RX7 309 yX7_withProof ∈ AW := in_t4 (List.mem_of_getElem? (i := 125) rfl) rfl
theorem aI_X7_withProof : Cond.instanceMethod yX7_withProof ∈ AW := in_t4 (List.mem_of_getElem? (i := 127) rfl) rfl
theorem aC_X7_withProof : Cond.code yX7_withProof cX7_withProof 7 (some .long) ∈ AW := in_t4 (List.mem_of_getElem? (i := 128) rfl) rfl
theorem aM_X7_315 : Cond.methodLink RX7 315 yX7_line ∈ AW := in_t4 (List.mem_of_getElem? (i := 129) rfl) rfl
theorem aM_X7_318 : Cond.methodLink RX7 318 yX7_box ∈ AW := in_t4 (List.mem_of_getElem? (i := 130) rfl) rfl
theorem aI_X7_box : Cond.instanceMethod yX7_box ∈ AW := in_t4 (List.mem_of_getElem? (i := 131) rfl) rfl
theorem aS_X7_box : Cond.selects RX7 yX7_box yX7_box ∈ AW := in_t4 (List.mem_of_getElem? (i := 132) rfl) rfl
theorem aC_X7_box : Cond.code yX7_box cX7_box 3 (some .int) ∈ AW := in_t4 (List.mem_of_getElem? (i := 133) rfl) rfl
theorem aM_X7_233 : Cond.methodLink RX7 233 yX3_firstLine ∈ AW := in_t4 (List.mem_of_getElem? (i := 135) rfl) rfl
theorem aI_X3_firstLine : Cond.instanceMethod yX3_firstLine ∈ AW := in_t4 (List.mem_of_getElem? (i := 136) rfl) rfl
theorem aS_X3_firstLine : Cond.selects RX3 yX3_firstLine yX3_firstLine ∈ AW := in_t4 (List.mem_of_getElem? (i := 137) rfl) rfl
theorem aC_X3_firstLine : Cond.code yX3_firstLine cX3_firstLine 2 (some .int) ∈ AW := in_t4 (List.mem_of_getElem? (i := 138) rfl) rfl
theorem aM_X7_236 : Cond.methodLink RX7 236 yX3_lastLine ∈ AW := in_t4 (List.mem_of_getElem? (i := 139) rfl) rfl
theorem aI_X3_lastLine : Cond.instanceMethod yX3_lastLine ∈ AW := in_t4 (List.mem_of_getElem? (i := 140) rfl) rfl
theorem aS_X3_lastLine : Cond.selects RX3 yX3_lastLine yX3_lastLine ∈ AW := in_t4 (List.mem_of_getElem? (i := 141) rfl) rfl
theorem aC_X3_lastLine : Cond.code yX3_lastLine cX3_lastLine 2 (some .int) ∈ AW := in_t4 (List.mem_of_getElem? (i := 142) rfl) rfl
theorem aM_X7_239 : Cond.methodLink RX7 239 yX3_outerBox ∈ AW := in_t4 (List.mem_of_getElem? (i := 143) rfl) rfl
theorem aI_X3_outerBox : Cond.instanceMethod yX3_outerBox ∈ AW := in_t4 (List.mem_of_getElem? (i := 144) rfl) rfl
theorem aS_X3_outerBox : Cond.selects RX3 yX3_outerBox yX3_outerBox ∈ AW := in_t4 (List.mem_of_getElem? (i := 145) rfl) rfl
theorem aC_X3_outerBox : Cond.code yX3_outerBox cX3_outerBox 2 (some .int) ∈ AW := in_t4 (List.mem_of_getElem? (i := 146) rfl) rfl
theorem aM_X7_242 : Cond.methodLink RX7 242 yX3_seesBox ∈ AW := in_t4 (List.mem_of_getElem? (i := 147) rfl) rfl
theorem aM_X7_312 : Cond.methodLink RX7 312 yX7_withTheorems ∈ AW := in_t4 (List.mem_of_getElem? (i := 148) rfl) rfl
theorem aI_X7_withTheorems : Cond.instanceMethod yX7_withTheorems ∈ AW := in_t4 (List.mem_of_getElem? (i := 150) rfl) rfl
theorem aC_X7_withTheorems : Cond.code yX7_withTheorems cX7_withTheorems 7 (some .long) ∈ AW := in_t4 (List.mem_of_getElem? (i := 151) rfl) rfl
theorem aM_X7_321 : Cond.methodLink RX7 321 yX7_theorem ∈ AW := in_t4 (List.mem_of_getElem? (i := 152) rfl) rfl
theorem aM_X7_148 : Cond.methodLink RX7 148 yX2_at ∈ AW := in_t4 (List.mem_of_getElem? (i := 153) rfl) rfl
theorem aI_X2_at : Cond.instanceMethod yX2_at ∈ AW := in_t4 (List.mem_of_getElem? (i := 154) rfl) rfl
theorem aS_X2_at : Cond.selects RX2 yX2_at yX2_at ∈ AW := in_t4 (List.mem_of_getElem? (i := 155) rfl) rfl
theorem aC_X2_at : Cond.code yX2_at cX2_at 2 (some .int) ∈ AW := in_t4 (List.mem_of_getElem? (i := 156) rfl) rfl
theorem aM_L_37 : Cond.methodLink RL 37 yL_below ∈ AW := in_t4 (List.mem_of_getElem? (i := 157) rfl) rfl
theorem aT_L_below : Cond.static yL_below ∈ AW := in_t4 (List.mem_of_getElem? (i := 158) rfl) rfl
theorem aC_L_below : Cond.code yL_below cL_below 2 (some .int) ∈ AW := in_t4 (List.mem_of_getElem? (i := 159) rfl) rfl
theorem aK_L_7 : Cond.constant RL 7 (2147483647) ∈ AW := in_t4 (List.mem_of_getElem? (i := 160) rfl) rfl
theorem aM_L_33 : Cond.methodLink RL 33 yL_cell ∈ AW := in_t4 (List.mem_of_getElem? (i := 161) rfl) rfl
theorem aT_L_cell : Cond.static yL_cell ∈ AW := in_t4 (List.mem_of_getElem? (i := 162) rfl) rfl
theorem aC_L_cell : Cond.code yL_cell cL_cell 2 (some .int) ∈ AW := in_t4 (List.mem_of_getElem? (i := 163) rfl) rfl
theorem aK_L_8 : Cond.constant RL 8 (790386105) ∈ AW := in_t4 (List.mem_of_getElem? (i := 164) rfl) rfl
theorem aS_X1_add : Cond.selects RX1 yX1_add yX1_add ∈ AW := in_s1 (q := (yX1_add, 8)) (List.mem_of_getElem? (i := 1) rfl) rfl
theorem aS_X3_refer : Cond.selects RX3 yX3_refer yX3_refer ∈ AW := in_s1 (q := (yX3_refer, 12)) (List.mem_of_getElem? (i := 2) rfl) rfl
theorem aS_X3_noteDeed : Cond.selects RX3 yX3_noteDeed yX3_noteDeed ∈ AW := in_s1 (q := (yX3_noteDeed, 12)) (List.mem_of_getElem? (i := 3) rfl) rfl
theorem aS_X3_latestLineOf : Cond.selects RX3 yX3_latestLineOf yX3_latestLineOf ∈ AW := in_s1 (q := (yX3_latestLineOf, 12)) (List.mem_of_getElem? (i := 4) rfl) rfl
theorem aS_X4_reaches : Cond.selects RX4 yX4_reaches yX4_reaches ∈ AW := in_s1 (q := (yX4_reaches, 4)) (List.mem_of_getElem? (i := 5) rfl) rfl
theorem aS_X4_hasForm : Cond.selects RX4 yX4_hasForm yX4_hasForm ∈ AW := in_s1 (q := (yX4_hasForm, 4)) (List.mem_of_getElem? (i := 6) rfl) rfl
theorem aS_X4_theoremFits : Cond.selects RX4 yX4_theoremFits yX4_theoremFits ∈ AW := in_s1 (q := (yX4_theoremFits, 4)) (List.mem_of_getElem? (i := 7) rfl) rfl
theorem aS_X6_becomes : Cond.selects RX6 yX6_becomes yX6_becomes ∈ AW := in_s1 (q := (yX6_becomes, 9)) (List.mem_of_getElem? (i := 8) rfl) rfl
theorem aS_X6_partsBecome : Cond.selects RX6 yX6_partsBecome yX6_partsBecome ∈ AW := in_s1 (q := (yX6_partsBecome, 9)) (List.mem_of_getElem? (i := 9) rfl) rfl
theorem aS_X4_firstFits : Cond.selects RX4 yX4_firstFits yX4_firstFits ∈ AW := in_s1 (q := (yX4_firstFits, 4)) (List.mem_of_getElem? (i := 10) rfl) rfl
theorem aS_X4_secondFits : Cond.selects RX4 yX4_secondFits yX4_secondFits ∈ AW := in_s1 (q := (yX4_secondFits, 4)) (List.mem_of_getElem? (i := 11) rfl) rfl
theorem aS_X4_thirdFits : Cond.selects RX4 yX4_thirdFits yX4_thirdFits ∈ AW := in_s1 (q := (yX4_thirdFits, 4)) (List.mem_of_getElem? (i := 12) rfl) rfl
theorem aS_X3_markReferences : Cond.selects RX3 yX3_markReferences yX3_markReferences ∈ AW := in_s1 (q := (yX3_markReferences, 12)) (List.mem_of_getElem? (i := 13) rfl) rfl
theorem aS_X3_mark : Cond.selects RX3 yX3_mark yX3_mark ∈ AW := in_s1 (q := (yX3_mark, 12)) (List.mem_of_getElem? (i := 14) rfl) rfl
theorem aS_X3_failuresIn : Cond.selects RX3 yX3_failuresIn yX3_failuresIn ∈ AW := in_s1 (q := (yX3_failuresIn, 12)) (List.mem_of_getElem? (i := 15) rfl) rfl
theorem aS_X4_choices : Cond.selects RX4 yX4_choices yX4_choices ∈ AW := in_s2 (q := (yX4_choices, 4)) (List.mem_of_getElem? (i := 0) rfl) rfl
theorem aS_X4_keep : Cond.selects RX4 yX4_keep yX4_keep ∈ AW := in_s2 (q := (yX4_keep, 4)) (List.mem_of_getElem? (i := 1) rfl) rfl
theorem aS_X7_withFormulas : Cond.selects RX7 yX7_withFormulas yX7_withFormulas ∈ AW := in_s2 (q := (yX7_withFormulas, 6)) (List.mem_of_getElem? (i := 2) rfl) rfl
theorem aS_X7_withProof : Cond.selects RX7 yX7_withProof yX7_withProof ∈ AW := in_s2 (q := (yX7_withProof, 6)) (List.mem_of_getElem? (i := 3) rfl) rfl
theorem aS_X7_withTheorems : Cond.selects RX7 yX7_withTheorems yX7_withTheorems ∈ AW := in_s2 (q := (yX7_withTheorems, 6)) (List.mem_of_getElem? (i := 4) rfl) rfl
theorem hwX0 : ∀ w ∈ wsX00, w ∈ AW := (List.forall_mem_cons.mpr ⟨aY_X0_firsts, List.forall_mem_cons.mpr ⟨aY_X0_lasts, List.forall_mem_cons.mpr ⟨aY_X0_outers, List.forall_mem_cons.mpr ⟨aY_X0_known, List.forall_mem_cons.mpr ⟨aY_X0_open, List.forall_mem_cons.mpr ⟨aY_X0_innermost, fun _ h => absurd h List.not_mem_nil⟩⟩⟩⟩⟩⟩ : ∀ w ∈ [Cond.laysFinal RX0 "ProofDesk$Boxes" "firsts" "[I", Cond.laysFinal RX0 "ProofDesk$Boxes" "lasts" "[I", Cond.laysFinal RX0 "ProofDesk$Boxes" "outers" "[I", Cond.lays RX0 "ProofDesk$Boxes" "known" "I", Cond.lays RX0 "ProofDesk$Boxes" "open" "I", Cond.lays RX0 "ProofDesk$Boxes" "innermost" "I"], w ∈ AW)
theorem hwX1 : ∀ w ∈ wsX10, w ∈ AW := (List.forall_mem_cons.mpr ⟨aY_X1_sorts, List.forall_mem_cons.mpr ⟨aY_X1_firsts, List.forall_mem_cons.mpr ⟨aY_X1_seconds, List.forall_mem_cons.mpr ⟨aY_X1_letterSets, List.forall_mem_cons.mpr ⟨aY_X1_sizes, List.forall_mem_cons.mpr ⟨aY_X1_widths, List.forall_mem_cons.mpr ⟨aY_X1_truths, List.forall_mem_cons.mpr ⟨aY_X1_known, fun _ h => absurd h List.not_mem_nil⟩⟩⟩⟩⟩⟩⟩⟩ : ∀ w ∈ [Cond.laysFinal RX1 "ProofDesk$Formulas" "sorts" "[I", Cond.laysFinal RX1 "ProofDesk$Formulas" "firsts" "[I", Cond.laysFinal RX1 "ProofDesk$Formulas" "seconds" "[I", Cond.laysFinal RX1 "ProofDesk$Formulas" "letterSets" "[I", Cond.laysFinal RX1 "ProofDesk$Formulas" "sizes" "[I", Cond.laysFinal RX1 "ProofDesk$Formulas" "widths" "[I", Cond.laysFinal RX1 "ProofDesk$Formulas" "truths" "[J", Cond.lays RX1 "ProofDesk$Formulas" "known" "I"], w ∈ AW)
theorem hwX2 : ∀ w ∈ wsX20, w ∈ AW := (List.forall_mem_cons.mpr ⟨aY_X2_formulas, List.forall_mem_cons.mpr ⟨aY_X2_bytes, List.forall_mem_cons.mpr ⟨aY_X2_waiting, List.forall_mem_cons.mpr ⟨aY_X2_places, List.forall_mem_cons.mpr ⟨aY_X2_waitingCount, List.forall_mem_cons.mpr ⟨aY_X2_size, fun _ h => absurd h List.not_mem_nil⟩⟩⟩⟩⟩⟩ : ∀ w ∈ [Cond.laysFinal RX2 "ProofDesk$Paper" "formulas" "LProofDesk$Formulas;", Cond.laysFinal RX2 "ProofDesk$Paper" "bytes" "[B", Cond.laysFinal RX2 "ProofDesk$Paper" "waiting" "[I", Cond.laysFinal RX2 "ProofDesk$Paper" "places" "[I", Cond.lays RX2 "ProofDesk$Paper" "waitingCount" "I", Cond.lays RX2 "ProofDesk$Paper" "size" "I"], w ∈ AW)
theorem hwX3 : ∀ w ∈ wsX30, w ∈ AW := (List.forall_mem_cons.mpr ⟨aY_X3_formulas, List.forall_mem_cons.mpr ⟨aY_X3_theorems, List.forall_mem_cons.mpr ⟨aY_X3_boxes, List.forall_mem_cons.mpr ⟨aY_X3_lineFormulas, List.forall_mem_cons.mpr ⟨aY_X3_lineRules, List.forall_mem_cons.mpr ⟨aY_X3_references, List.forall_mem_cons.mpr ⟨aY_X3_kinds, List.forall_mem_cons.mpr ⟨aY_X3_lineBoxes, List.forall_mem_cons.mpr ⟨aY_X3_needed, List.forall_mem_cons.mpr ⟨aY_X3_deeds, List.forall_mem_cons.mpr ⟨aY_X3_deedCount, List.forall_mem_cons.mpr ⟨aY_X3_lineCount, fun _ h => absurd h List.not_mem_nil⟩⟩⟩⟩⟩⟩⟩⟩⟩⟩⟩⟩ : ∀ w ∈ [Cond.laysFinal RX3 "ProofDesk$Proof" "formulas" "LProofDesk$Formulas;", Cond.laysFinal RX3 "ProofDesk$Proof" "theorems" "LProofDesk$Theorems;", Cond.laysFinal RX3 "ProofDesk$Proof" "boxes" "LProofDesk$Boxes;", Cond.laysFinal RX3 "ProofDesk$Proof" "lineFormulas" "[I", Cond.laysFinal RX3 "ProofDesk$Proof" "lineRules" "[I", Cond.laysFinal RX3 "ProofDesk$Proof" "references" "[I", Cond.laysFinal RX3 "ProofDesk$Proof" "kinds" "[I", Cond.laysFinal RX3 "ProofDesk$Proof" "lineBoxes" "[I", Cond.laysFinal RX3 "ProofDesk$Proof" "needed" "[Z", Cond.laysFinal RX3 "ProofDesk$Proof" "deeds" "[I", Cond.lays RX3 "ProofDesk$Proof" "deedCount" "I", Cond.lays RX3 "ProofDesk$Proof" "lineCount" "I"], w ∈ AW)
theorem hwX4 : ∀ w ∈ wsX40, w ∈ AW := (List.forall_mem_cons.mpr ⟨aY_X4_formulas, List.forall_mem_cons.mpr ⟨aY_X4_theorems, List.forall_mem_cons.mpr ⟨aY_X4_proof, List.forall_mem_cons.mpr ⟨aY_X4_found, fun _ h => absurd h List.not_mem_nil⟩⟩⟩⟩ : ∀ w ∈ [Cond.laysFinal RX4 "ProofDesk$Rules" "formulas" "LProofDesk$Formulas;", Cond.laysFinal RX4 "ProofDesk$Rules" "theorems" "LProofDesk$Theorems;", Cond.laysFinal RX4 "ProofDesk$Rules" "proof" "LProofDesk$Proof;", Cond.laysFinal RX4 "ProofDesk$Rules" "found" "[I"], w ∈ AW)
theorem hwX5 : ∀ w ∈ wsX50, w ∈ AW := (List.forall_mem_cons.mpr ⟨aY_X5_formulas, List.forall_mem_cons.mpr ⟨aY_X5_bytes, List.forall_mem_cons.mpr ⟨aY_X5_size, List.forall_mem_cons.mpr ⟨aY_X5_at, List.forall_mem_cons.mpr ⟨aY_X5_error, fun _ h => absurd h List.not_mem_nil⟩⟩⟩⟩⟩ : ∀ w ∈ [Cond.laysFinal RX5 "ProofDesk$Tape" "formulas" "LProofDesk$Formulas;", Cond.laysFinal RX5 "ProofDesk$Tape" "bytes" "[B", Cond.lays RX5 "ProofDesk$Tape" "size" "I", Cond.lays RX5 "ProofDesk$Tape" "at" "I", Cond.lays RX5 "ProofDesk$Tape" "error" "I"], w ∈ AW)
theorem hwX6 : ∀ w ∈ wsX60, w ∈ AW := (List.forall_mem_cons.mpr ⟨aY_X6_formulas, List.forall_mem_cons.mpr ⟨aY_X6_conclusions, List.forall_mem_cons.mpr ⟨aY_X6_firsts, List.forall_mem_cons.mpr ⟨aY_X6_seconds, List.forall_mem_cons.mpr ⟨aY_X6_lines, List.forall_mem_cons.mpr ⟨aY_X6_needed, List.forall_mem_cons.mpr ⟨aY_X6_uses, List.forall_mem_cons.mpr ⟨aY_X6_images, List.forall_mem_cons.mpr ⟨aY_X6_known, fun _ h => absurd h List.not_mem_nil⟩⟩⟩⟩⟩⟩⟩⟩⟩ : ∀ w ∈ [Cond.laysFinal RX6 "ProofDesk$Theorems" "formulas" "LProofDesk$Formulas;", Cond.laysFinal RX6 "ProofDesk$Theorems" "conclusions" "[I", Cond.laysFinal RX6 "ProofDesk$Theorems" "firsts" "[I", Cond.laysFinal RX6 "ProofDesk$Theorems" "seconds" "[I", Cond.laysFinal RX6 "ProofDesk$Theorems" "lines" "[I", Cond.laysFinal RX6 "ProofDesk$Theorems" "needed" "[I", Cond.laysFinal RX6 "ProofDesk$Theorems" "uses" "[I", Cond.laysFinal RX6 "ProofDesk$Theorems" "images" "[I", Cond.lays RX6 "ProofDesk$Theorems" "known" "I"], w ∈ AW)
theorem hwX7 : ∀ w ∈ wsX70, w ∈ AW := (List.forall_mem_cons.mpr ⟨aY_X7_formulas, List.forall_mem_cons.mpr ⟨aY_X7_tape, List.forall_mem_cons.mpr ⟨aY_X7_paper, List.forall_mem_cons.mpr ⟨aY_X7_theorems, List.forall_mem_cons.mpr ⟨aY_X7_proof, List.forall_mem_cons.mpr ⟨aY_X7_rules, fun _ h => absurd h List.not_mem_nil⟩⟩⟩⟩⟩⟩ : ∀ w ∈ [Cond.laysFinal RX7 "ProofDesk" "formulas" "LProofDesk$Formulas;", Cond.laysFinal RX7 "ProofDesk" "tape" "LProofDesk$Tape;", Cond.laysFinal RX7 "ProofDesk" "paper" "LProofDesk$Paper;", Cond.laysFinal RX7 "ProofDesk" "theorems" "LProofDesk$Theorems;", Cond.laysFinal RX7 "ProofDesk" "proof" "LProofDesk$Proof;", Cond.laysFinal RX7 "ProofDesk" "rules" "LProofDesk$Rules;"], w ∈ AW)
abbrev zX0_init : List Cond := (Cond.code yX0_init cX0_init 1 none) :: AW
abbrev zX0_known : List Cond := (Cond.code yX0_known cX0_known 1 (some .int)) :: AW
abbrev zX0_open : List Cond := (Cond.code yX0_open cX0_open 1 (some .int)) :: AW
abbrev zX0_innermost : List Cond := (Cond.code yX0_innermost cX0_innermost 1 (some .int)) :: AW
abbrev zX0_first : List Cond := (Cond.code yX0_first cX0_first 2 (some .int)) :: AW
abbrev zX0_last : List Cond := (Cond.code yX0_last cX0_last 2 (some .int)) :: AW
abbrev zX0_outer : List Cond := (Cond.code yX0_outer cX0_outer 2 (some .int)) :: AW
abbrev zX0_isOpen : List Cond := (Cond.code yX0_isOpen cX0_isOpen 2 (some .boolean)) :: AW
abbrev zX0_canBeReferredTo : List Cond := (Cond.code yX0_canBeReferredTo cX0_canBeReferredTo 2 (some .boolean)) :: AW
abbrev zX0_clear : List Cond := (Cond.code yX0_clear cX0_clear 1 none) :: AW
abbrev zX0_addAt : List Cond := (Cond.code yX0_addAt cX0_addAt 2 none) :: AW
abbrev zX0_shutAt : List Cond := (Cond.code yX0_shutAt cX0_shutAt 3 none) :: AW
abbrev zX0_reopen : List Cond := (Cond.code yX0_reopen cX0_reopen 2 none) :: AW
abbrev zX0_dropLatest : List Cond := (Cond.code yX0_dropLatest cX0_dropLatest 2 none) :: AW
abbrev zX1_init : List Cond := (Cond.code yX1_init cX1_init 1 none) :: AW
abbrev zX1_known : List Cond := (Cond.code yX1_known cX1_known 1 (some .int)) :: AW
abbrev zX1_isKnown : List Cond := (Cond.code yX1_isKnown cX1_isKnown 2 (some .boolean)) :: AW
abbrev zX1_sort : List Cond := (Cond.code yX1_sort cX1_sort 2 (some .int)) :: AW
abbrev zX1_first : List Cond := (Cond.code yX1_first cX1_first 2 (some .int)) :: AW
abbrev zX1_left : List Cond := (Cond.code yX1_left cX1_left 2 (some .int)) :: AW
abbrev zX1_second : List Cond := (Cond.code yX1_second cX1_second 2 (some .int)) :: AW
abbrev zX1_letters : List Cond := (Cond.code yX1_letters cX1_letters 2 (some .int)) :: AW
abbrev zX1_size : List Cond := (Cond.code yX1_size cX1_size 2 (some .int)) :: AW
abbrev zX1_width : List Cond := (Cond.code yX1_width cX1_width 2 (some .int)) :: AW
abbrev zX1_truth : List Cond := (Cond.code yX1_truth cX1_truth 3 (some .long)) :: AW
abbrev zX1_trueSets : List Cond := (Cond.code yX1_trueSets cX1_trueSets 4 (some .int)) :: AW
abbrev zX1_hasParts : List Cond := (Cond.code yX1_hasParts cX1_hasParts 4 (some .boolean)) :: AW
abbrev zX1_number : List Cond := (Cond.code yX1_number cX1_number 7 (some .int)) :: AW
abbrev zX1_find : List Cond := (Cond.code yX1_find cX1_find 5 (some .int)) :: AW
abbrev zX1_add : List Cond := (Cond.code yX1_add cX1_add 8 none) :: AW
abbrev zX1_truthOfLetter : List Cond := (Cond.code yX1_truthOfLetter cX1_truthOfLetter 2 (some .long)) :: AW
abbrev zX1_truthOfParts : List Cond := (Cond.code yX1_truthOfParts cX1_truthOfParts 5 (some .long)) :: AW
abbrev zX1_needsBrackets : List Cond := (Cond.code yX1_needsBrackets cX1_needsBrackets 3 (some .boolean)) :: AW
abbrev zX2_init : List Cond := (Cond.code yX2_init cX2_init 2 none) :: AW
abbrev zX2_size : List Cond := (Cond.code yX2_size cX2_size 1 (some .int)) :: AW
abbrev zX2_at : List Cond := (Cond.code yX2_at cX2_at 2 (some .int)) :: AW
abbrev zX3_init : List Cond := (Cond.code yX3_init cX3_init 3 none) :: AW
abbrev zX3_lineCount : List Cond := (Cond.code yX3_lineCount cX3_lineCount 1 (some .int)) :: AW
abbrev zX3_boxCount : List Cond := (Cond.code yX3_boxCount cX3_boxCount 1 (some .int)) :: AW
abbrev zX3_openCount : List Cond := (Cond.code yX3_openCount cX3_openCount 1 (some .int)) :: AW
abbrev zX3_premiseCount : List Cond := (Cond.code yX3_premiseCount cX3_premiseCount 3 (some .int)) :: AW
abbrev zX3_formulaOf : List Cond := (Cond.code yX3_formulaOf cX3_formulaOf 2 (some .int)) :: AW
abbrev zX3_ruleOf : List Cond := (Cond.code yX3_ruleOf cX3_ruleOf 2 (some .int)) :: AW
abbrev zX3_reference : List Cond := (Cond.code yX3_reference cX3_reference 3 (some .int)) :: AW
abbrev zX3_boxOf : List Cond := (Cond.code yX3_boxOf cX3_boxOf 2 (some .int)) :: AW
abbrev zX3_firstLine : List Cond := (Cond.code yX3_firstLine cX3_firstLine 2 (some .int)) :: AW
abbrev zX3_lastLine : List Cond := (Cond.code yX3_lastLine cX3_lastLine 2 (some .int)) :: AW
abbrev zX3_outerBox : List Cond := (Cond.code yX3_outerBox cX3_outerBox 2 (some .int)) :: AW
abbrev zX3_beginOf : List Cond := (Cond.code yX3_beginOf cX3_beginOf 2 (some .int)) :: AW
abbrev zX3_endOf : List Cond := (Cond.code yX3_endOf cX3_endOf 2 (some .int)) :: AW
abbrev zX3_seesLine : List Cond := (Cond.code yX3_seesLine cX3_seesLine 2 (some .boolean)) :: AW
abbrev zX3_seesBox : List Cond := (Cond.code yX3_seesBox cX3_seesBox 2 (some .boolean)) :: AW
abbrev zX3_clear : List Cond := (Cond.code yX3_clear cX3_clear 1 none) :: AW
abbrev zX3_add : List Cond := (Cond.code yX3_add cX3_add 7 (some .int)) :: AW
abbrev zX3_refer : List Cond := (Cond.code yX3_refer cX3_refer 4 none) :: AW
abbrev zX3_openBox : List Cond := (Cond.code yX3_openBox cX3_openBox 1 none) :: AW
abbrev zX3_shutBox : List Cond := (Cond.code yX3_shutBox cX3_shutBox 2 (some .int)) :: AW
abbrev zX3_latestLineOf : List Cond := (Cond.code yX3_latestLineOf cX3_latestLineOf 3 (some .int)) :: AW
abbrev zX3_noteDeed : List Cond := (Cond.code yX3_noteDeed cX3_noteDeed 2 none) :: AW
abbrev zX3_wasBegun : List Cond := (Cond.code yX3_wasBegun cX3_wasBegun 1 (some .boolean)) :: AW
abbrev zX3_takeBack : List Cond := (Cond.code yX3_takeBack cX3_takeBack 2 none) :: AW
abbrev zX3_kind : List Cond := (Cond.code yX3_kind cX3_kind 5 (some .int)) :: AW
abbrev zX3_isNeeded : List Cond := (Cond.code yX3_isNeeded cX3_isNeeded 2 (some .boolean)) :: AW
abbrev zX3_neededCount : List Cond := (Cond.code yX3_neededCount cX3_neededCount 4 (some .int)) :: AW
abbrev zX3_markReferences : List Cond := (Cond.code yX3_markReferences cX3_markReferences 3 none) :: AW
abbrev zX3_mark : List Cond := (Cond.code yX3_mark cX3_mark 2 none) :: AW
abbrev zX3_failures : List Cond := (Cond.code yX3_failures cX3_failures 4 (some .int)) :: AW
abbrev zX3_failuresIn : List Cond := (Cond.code yX3_failuresIn cX3_failuresIn 8 (some .long)) :: AW
abbrev zX4_init : List Cond := (Cond.code yX4_init cX4_init 4 none) :: AW
abbrev zX4_refusal : List Cond := (Cond.code yX4_refusal cX4_refusal 7 (some .int)) :: AW
abbrev zX4_reaches : List Cond := (Cond.code yX4_reaches cX4_reaches 3 (some .boolean)) :: AW
abbrev zX4_hasForm : List Cond := (Cond.code yX4_hasForm cX4_hasForm 5 (some .boolean)) :: AW
abbrev zX4_firstFits : List Cond := (Cond.code yX4_firstFits cX4_firstFits 6 (some .boolean)) :: AW
abbrev zX4_secondFits : List Cond := (Cond.code yX4_secondFits cX4_secondFits 5 (some .boolean)) :: AW
abbrev zX4_thirdFits : List Cond := (Cond.code yX4_thirdFits cX4_thirdFits 5 (some .boolean)) :: AW
abbrev zX4_theoremFits : List Cond := (Cond.code yX4_theoremFits cX4_theoremFits 8 (some .boolean)) :: AW
abbrev zX4_search : List Cond := (Cond.code yX4_search cX4_search 6 (some .boolean)) :: AW
abbrev zX4_choices : List Cond := (Cond.code yX4_choices cX4_choices 3 (some .int)) :: AW
abbrev zX4_keep : List Cond := (Cond.code yX4_keep cX4_keep 5 none) :: AW
abbrev zX4_found : List Cond := (Cond.code yX4_found cX4_found 2 (some .int)) :: AW
abbrev zX5_init : List Cond := (Cond.code yX5_init cX5_init 2 none) :: AW
abbrev zX5_size : List Cond := (Cond.code yX5_size cX5_size 1 (some .int)) :: AW
abbrev zX6_init : List Cond := (Cond.code yX6_init cX6_init 2 none) :: AW
abbrev zX6_known : List Cond := (Cond.code yX6_known cX6_known 1 (some .int)) :: AW
abbrev zX6_isKnown : List Cond := (Cond.code yX6_isKnown cX6_isKnown 2 (some .boolean)) :: AW
abbrev zX6_conclusion : List Cond := (Cond.code yX6_conclusion cX6_conclusion 2 (some .int)) :: AW
abbrev zX6_premises : List Cond := (Cond.code yX6_premises cX6_premises 2 (some .int)) :: AW
abbrev zX6_firstPremise : List Cond := (Cond.code yX6_firstPremise cX6_firstPremise 2 (some .int)) :: AW
abbrev zX6_secondPremise : List Cond := (Cond.code yX6_secondPremise cX6_secondPremise 2 (some .int)) :: AW
abbrev zX6_lines : List Cond := (Cond.code yX6_lines cX6_lines 2 (some .int)) :: AW
abbrev zX6_needed : List Cond := (Cond.code yX6_needed cX6_needed 2 (some .int)) :: AW
abbrev zX6_uses : List Cond := (Cond.code yX6_uses cX6_uses 2 (some .int)) :: AW
abbrev zX6_noteUse : List Cond := (Cond.code yX6_noteUse cX6_noteUse 2 none) :: AW
abbrev zX6_add : List Cond := (Cond.code yX6_add cX6_add 7 (some .int)) :: AW
abbrev zX6_neededShare : List Cond := (Cond.code yX6_neededShare cX6_neededShare 4 (some .double)) :: AW
abbrev zX6_concludes : List Cond := (Cond.code yX6_concludes cX6_concludes 3 (some .boolean)) :: AW
abbrev zX6_saysWithPremises : List Cond := (Cond.code yX6_saysWithPremises cX6_saysWithPremises 7 (some .boolean)) :: AW
abbrev zX6_imageOfLetter : List Cond := (Cond.code yX6_imageOfLetter cX6_imageOfLetter 3 (some .int)) :: AW
abbrev zX6_partsBecome : List Cond := (Cond.code yX6_partsBecome cX6_partsBecome 4 (some .boolean)) :: AW
abbrev zX6_becomes : List Cond := (Cond.code yX6_becomes cX6_becomes 3 (some .boolean)) :: AW
abbrev zX7_init : List Cond := (Cond.code yX7_init cX7_init 1 none) :: AW
abbrev zX7_make : List Cond := (Cond.code yX7_make cX7_make 5 (some .int)) :: AW
abbrev zX7_formula : List Cond := (Cond.code yX7_formula cX7_formula 3 (some .int)) :: AW
abbrev zX7_begin : List Cond := (Cond.code yX7_begin cX7_begin 2 (some .int)) :: AW
abbrev zX7_premise : List Cond := (Cond.code yX7_premise cX7_premise 3 (some .int)) :: AW
abbrev zX7_assume : List Cond := (Cond.code yX7_assume cX7_assume 2 (some .int)) :: AW
abbrev zX7_close : List Cond := (Cond.code yX7_close cX7_close 1 (some .int)) :: AW
abbrev zX7_step : List Cond := (Cond.code yX7_step cX7_step 7 (some .int)) :: AW
abbrev zX7_undo : List Cond := (Cond.code yX7_undo cX7_undo 1 (some .int)) :: AW
abbrev zX7_count : List Cond := (Cond.code yX7_count cX7_count 2 (some .int)) :: AW
abbrev zX7_line : List Cond := (Cond.code yX7_line cX7_line 3 (some .int)) :: AW
abbrev zX7_box : List Cond := (Cond.code yX7_box cX7_box 3 (some .int)) :: AW
abbrev zX7_fails : List Cond := (Cond.code yX7_fails cX7_fails 2 (some .int)) :: AW
abbrev zX7_hint : List Cond := (Cond.code yX7_hint cX7_hint 4 (some .int)) :: AW
abbrev zX7_end : List Cond := (Cond.code yX7_end cX7_end 6 (some .int)) :: AW
abbrev zX7_theorem : List Cond := (Cond.code yX7_theorem cX7_theorem 3 (some .int)) :: AW
abbrev zX7_instance : List Cond := (Cond.code yX7_instance cX7_instance 4 (some .int)) :: AW
abbrev zX7_thrift : List Cond := (Cond.code yX7_thrift cX7_thrift 1 (some .double)) :: AW
abbrev zX7_digest : List Cond := (Cond.code yX7_digest cX7_digest 4 (some .long)) :: AW
abbrev zX7_withFormulas : List Cond := (Cond.code yX7_withFormulas cX7_withFormulas 6 (some .long)) :: AW
abbrev zX7_withProof : List Cond := (Cond.code yX7_withProof cX7_withProof 7 (some .long)) :: AW
abbrev zX7_withTheorems : List Cond := (Cond.code yX7_withTheorems cX7_withTheorems 7 (some .long)) :: AW
abbrev zJ13_bitCount_95d88 : List Cond := (Cond.code yJ13_bitCount_95d88 cJ13_bitCount_95d88 2 (some .int)) :: AW
abbrev zJ9_max_7cf53 : List Cond := (Cond.code yJ9_max_7cf53 cJ9_max_7cf53 2 (some .int)) :: AW
abbrev zJ9_min_7cf53 : List Cond := (Cond.code yJ9_min_7cf53 cJ9_min_7cf53 2 (some .int)) :: AW
abbrev zJ7_fill_53178 : List Cond := (Cond.code yJ7_fill_53178 cJ7_fill_53178 4 none) :: AW
abbrev zL_below : List Cond := (Cond.code yL_below cL_below 2 (some .int)) :: AW
abbrev zL_cell : List Cond := (Cond.code yL_cell cL_cell 2 (some .int)) :: AW
