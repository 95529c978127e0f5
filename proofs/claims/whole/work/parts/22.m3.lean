theorem eX8_refusal : yX8_refusal.cls = RX8 ∧ yX8_refusal.cls ≠ "java/lang/invoke/MethodHandle" ∧ yX8_refusal.cls ≠ "java/lang/invoke/VarHandle" ∧ (parseMethodDescriptor yX8_refusal.desc).map (fun d => d.parameters.length) = some 5 := by decide +kernel
def mX8_refusal_304 (s9 : St) (v1 : Int32) (v2 : Int32) (v3 : Int32) (v4 : Int32) (v5 : Int32) (v6 : Int32) (v7 : Int32) (v8 : Int32) : Option (Int32 × St) :=
if v8 = 0 then (
some (2, s9))
else (
(mX8_gives s9 v1 v2 v6 v7 v3 v4 v5).bind fun r11 =>
if r11 = 0 then (
some (3, s9))
else (
some (0, s9)))
def mX8_refusal_302 (s22 : St) (v14 : Int32) (v15 : Int32) (v16 : Int32) (v17 : Int32) (v18 : Int32) (v19 : Int32) (v20 : Int32) (v21 : Int32) : Option (Int32 × St) :=
mX8_refusal_304 s22 v14 v15 v16 v17 v18 v19 v20 v21
def mX8_refusal_301 (s30 : St) (v23 : Int32) (v24 : Int32) (v25 : Int32) (v26 : Int32) (v27 : Int32) (v28 : Int32) (v29 : Int32) : Option (Int32 × St) :=
mX8_refusal_302 s30 v23 v24 v25 v26 v27 v28 v29 0
def mX8_refusal_269 (s40 : St) (v31 : Int32) (v32 : Int32) (v33 : Int32) (v34 : Int32) (v35 : Int32) (v36 : Int32) (v37 : Int32) (v38 : Int32) (v39 : Int32) : Option (Int32 × St) :=
if v31 = 12 then (
if v37 = 2 then (
chkI v36 240 (
chkI (s40.1 16 v36.toNatClampNeg) 240 (
if (s40.1 15 (s40.1 16 v36.toNatClampNeg).toNatClampNeg) = 2 then (
mX8_refusal_302 s40 v31 v32 v33 v34 v35 v36 v38 1)
else (
mX8_refusal_301 s40 v31 v32 v33 v34 v35 v36 v38))))
else (
mX8_refusal_301 s40 v31 v32 v33 v34 v35 v36 v38))
else (
mX8_refusal_304 s40 v31 v32 v33 v34 v35 v36 v38 v39)
def mX8_refusal_267 (s53 : St) (v44 : Int32) (v45 : Int32) (v46 : Int32) (v47 : Int32) (v48 : Int32) (v49 : Int32) (v50 : Int32) (v51 : Int32) (v52 : Int32) : Option (Int32 × St) :=
mX8_refusal_269 s53 v44 v45 v46 v47 v48 v49 v50 v51 v52
def mX8_refusal_245 (s63 : St) (v54 : Int32) (v55 : Int32) (v56 : Int32) (v57 : Int32) (v58 : Int32) (v59 : Int32) (v60 : Int32) (v61 : Int32) (v62 : Int32) : Option (Int32 × St) :=
if v54 = 10 then (
chkI v61 240 (
if (s63.1 15 v61.toNatClampNeg) = 2 then (
mX8_refusal_267 s63 v54 v55 v56 v57 v58 v59 v60 v61 1)
else (
mX8_refusal_267 s63 v54 v55 v56 v57 v58 v59 v60 v61 0)))
else (
mX8_refusal_269 s63 v54 v55 v56 v57 v58 v59 v60 v61 v62)
def mX8_refusal_243 (s75 : St) (v66 : Int32) (v67 : Int32) (v68 : Int32) (v69 : Int32) (v70 : Int32) (v71 : Int32) (v72 : Int32) (v73 : Int32) (v74 : Int32) : Option (Int32 × St) :=
mX8_refusal_245 s75 v66 v67 v68 v69 v70 v71 v72 v73 v74
def mX8_refusal_232 (s84 : St) (v76 : Int32) (v77 : Int32) (v78 : Int32) (v79 : Int32) (v80 : Int32) (v81 : Int32) (v82 : Int32) (v83 : Int32) : Option (Int32 × St) :=
if v82 = 1 then (
mX8_refusal_243 s84 v76 v77 v78 v79 v80 v81 v82 v83 1)
else (
mX8_refusal_243 s84 v76 v77 v78 v79 v80 v81 v82 v83 0)
def mX8_refusal_220 (s95 : St) (v86 : Int32) (v87 : Int32) (v88 : Int32) (v89 : Int32) (v90 : Int32) (v91 : Int32) (v92 : Int32) (v93 : Int32) (v94 : Int32) : Option (Int32 × St) :=
if v86 = 9 then (
mX8_refusal_232 s95 v86 v87 v88 v89 v90 v91 v92 v93)
else (
if v86 = 11 then (
mX8_refusal_232 s95 v86 v87 v88 v89 v90 v91 v92 v93)
else (
mX8_refusal_245 s95 v86 v87 v88 v89 v90 v91 v92 v93 v94))
def mX8_refusal_218 (s107 : St) (v98 : Int32) (v99 : Int32) (v100 : Int32) (v101 : Int32) (v102 : Int32) (v103 : Int32) (v104 : Int32) (v105 : Int32) (v106 : Int32) : Option (Int32 × St) :=
mX8_refusal_220 s107 v98 v99 v100 v101 v102 v103 v104 v105 v106
def mX8_refusal_201 (s117 : St) (v108 : Int32) (v109 : Int32) (v110 : Int32) (v111 : Int32) (v112 : Int32) (v113 : Int32) (v114 : Int32) (v115 : Int32) (v116 : Int32) : Option (Int32 × St) :=
if v108 = 8 then (
if v114 = 5 then (
mX8_refusal_218 s117 v108 v109 v110 v111 v112 v113 v114 v115 1)
else (
mX8_refusal_218 s117 v108 v109 v110 v111 v112 v113 v114 v115 0))
else (
mX8_refusal_220 s117 v108 v109 v110 v111 v112 v113 v114 v115 v116)
def mX8_refusal_199 (s129 : St) (v120 : Int32) (v121 : Int32) (v122 : Int32) (v123 : Int32) (v124 : Int32) (v125 : Int32) (v126 : Int32) (v127 : Int32) (v128 : Int32) : Option (Int32 × St) :=
mX8_refusal_201 s129 v120 v121 v122 v123 v124 v125 v126 v127 v128
def mX8_refusal_182 (s139 : St) (v130 : Int32) (v131 : Int32) (v132 : Int32) (v133 : Int32) (v134 : Int32) (v135 : Int32) (v136 : Int32) (v137 : Int32) (v138 : Int32) : Option (Int32 × St) :=
if v130 = 6 then (
if v136 = 4 then (
mX8_refusal_199 s139 v130 v131 v132 v133 v134 v135 v136 v137 1)
else (
mX8_refusal_199 s139 v130 v131 v132 v133 v134 v135 v136 v137 0))
else (
mX8_refusal_201 s139 v130 v131 v132 v133 v134 v135 v136 v137 v138)
def mX8_refusal_180 (s151 : St) (v142 : Int32) (v143 : Int32) (v144 : Int32) (v145 : Int32) (v146 : Int32) (v147 : Int32) (v148 : Int32) (v149 : Int32) (v150 : Int32) : Option (Int32 × St) :=
mX8_refusal_182 s151 v142 v143 v144 v145 v146 v147 v148 v149 v150
def mX8_refusal_169 (s160 : St) (v152 : Int32) (v153 : Int32) (v154 : Int32) (v155 : Int32) (v156 : Int32) (v157 : Int32) (v158 : Int32) (v159 : Int32) : Option (Int32 × St) :=
if v158 = 3 then (
mX8_refusal_180 s160 v152 v153 v154 v155 v156 v157 v158 v159 1)
else (
mX8_refusal_180 s160 v152 v153 v154 v155 v156 v157 v158 v159 0)
def mX8_refusal_154 (s170 : St) (v162 : Int32) (v163 : Int32) (v164 : Int32) (v165 : Int32) (v166 : Int32) (v167 : Int32) (v168 : Int32) (v169 : Int32) : Option (Int32 × St) :=
if v162 = 2 then (
mX8_refusal_169 s170 v162 v163 v164 v165 v166 v167 v168 v169)
else (
if v162 = 3 then (
mX8_refusal_169 s170 v162 v163 v164 v165 v166 v167 v168 v169)
else (
mX8_refusal_182 s170 v162 v163 v164 v165 v166 v167 v168 v169 1))
def mX8_refusal_120 (s180 : St) (v173 : Int32) (v174 : Int32) (v175 : Int32) (v176 : Int32) (v177 : Int32) (v178 : Int32) (v179 : Int32) : Option (Int32 × St) :=
chkI v179 240 (
bnd (s180.1 15 v179.toNatClampNeg) fun x181 =>
if ((v178 / 10) - (v178 / 10) / 10 * 10) = 1 then (
chkI v176 60 (
mX8_refusal_154 s180 v173 v174 v175 v176 v177 v179 x181 (s180.1 21 v176.toNatClampNeg)))
else (
mX8_refusal_154 s180 v173 v174 v175 v176 v177 v179 x181 (-1)))
def mX8_refusal_93 (s190 : St) (v183 : Int32) (v184 : Int32) (v185 : Int32) (v186 : Int32) (v187 : Int32) (v188 : Int32) (v189 : Int32) : Option (Int32 × St) :=
if v189 = 0 then (
chkI v185 60 (
mX8_refusal_120 s190 v183 v184 v185 v186 v187 v188 (s190.1 21 v185.toNatClampNeg)))
else (
chkI v185 60 (
chkI (s190.1 26 v185.toNatClampNeg) 60 (
mX8_refusal_120 s190 v183 v184 v185 v186 v187 v188 (s190.1 21 (s190.1 26 v185.toNatClampNeg).toNatClampNeg))))
def mX8_refusal (σ : St) (p1 : Int32) (p2 : Int32) (p3 : Int32) (p4 : Int32) (p5 : Int32) : Option (Int32 × St) :=
(mX8_needs σ p1 p3).bind fun r192 =>
(mX8_isReference σ (r192 / 100) p3).bind fun r194 =>
if r194 = 0 then (
some (1, σ))
else (
(mX8_isReference σ ((r192 / 10) - (r192 / 10) / 10 * 10) p4).bind fun r197 =>
if r197 = 0 then (
some (1, σ))
else (
(mX8_isReference σ (r192 - r192 / 10 * 10) p5).bind fun r200 =>
if r200 = 0 then (
some (1, σ))
else (
if p1 = 13 then (
(mX8_theoremGives σ p2 p3 p4 p5).bind fun ⟨r205, s207⟩ =>
if r205 = 0 then (
some (3, s207))
else (
some (0, s207)))
else (
if (r192 / 100) = 2 then (
mX8_refusal_93 σ p1 p2 p3 p4 p5 r192 1)
else (
mX8_refusal_93 σ p1 p2 p3 p4 p5 r192 0)))))
set_option maxHeartbeats 4000000 in
set_option maxRecDepth 100000 in
theorem kX8_refusal (l : Launch) (D : va_G) (y : Nat → ClassId) (a t : Nat → Nat) (hI : AI a 30) (sz : Nat) (σ τ : St) (p1 : Int32) (p2 : Int32) (p3 : Int32) (p4 : Int32) (p5 : Int32) (r : Int32) (hm : mX8_refusal σ p1 p2 p3 p4 p5 = some (r, τ)) : Met l yX8_refusal zX8_refusal { frames := 258, cells := 0, slots := 0, locals := 5936 } (va_Pc [.ref (a 0), .int p1, .int p2, .int p3, .int p4, .int p5] (preW (wM y a) a 30 D y t σ sz)) (va_Qi (fun r' u => r' = r ∧ u = τ) (posW (wM y a) D) (AC a 30 sz)) 0 0 (AC a 30 sz) := by
  refine Met.ofW (cc := cX8_refusal) (maxL := 12) (ret := (some .int)) (by decide) rfl ?_
  intro p e s m args below meth c s₁ B hml hv
  obtain ⟨rfl, hsz, hP, hK, hF⟩ := hv
  have hx := B.exec
  have hb := B.bytes
  have hr := B.returns
  have hts := atoms_spec (ws := zX8_refusal) B.pre
  have hown : s.vm.findClass RX8 = some m.cls := findClass_of_methodNamed B.named
  have hlocks := B.notSynchronized
  subst hsz
  have l_f40 := hts _ (List.mem_cons_of_mem _ aF_X8_40)
  have l_f55 := hts _ (List.mem_cons_of_mem _ aF_X8_55)
  have l_f20 := hts _ (List.mem_cons_of_mem _ aF_X8_20)
  have l_f23 := hts _ (List.mem_cons_of_mem _ aF_X8_23)
  have h_X8 : ∀ w ∈ wsX80, w.before _ s = true := fun w hw => hts w (List.mem_cons_of_mem _ (hwX8 w hw))
  have hS : va_S (AC a 30 s.heap.size) s.heap s.heap [] := va_S.rf
  have hl := lv_entry ([.ref (a 0), .int p1, .int p2, .int p3, .int p4, .int p5]) (n := 12) (Nat.le_of_ble_eq_true rfl)
  rw [lg_entry_eq]
  generalize (lg_sl ([.ref (a 0), .int p1, .int p2, .int p3, .int p4, .int p5]) ++ List.replicate (12 - (lg_sl ([.ref (a 0), .int p1, .int p2, .int p3, .int p4, .int p5])).length) Slot.unset).toArray = ls at hl ⊢
  have hl : lv_has ls 12 [(0, .ref (a 0)), (1, .int p1), (2, .int p2), (3, .int p3), (4, .int p4), (5, .int p5)] := hl
  have L_304 : ∀ (s9 : St) (v1 : Int32) (v2 : Int32) (v3 : Int32) (v4 : Int32) (v5 : Int32) (v6 : Int32) (v7 : Int32) (v8 : Int32) (H : Heap) (locs : List Loc) (ls : Array Slot), va_P D vwCl (wM y a s9) H → va_S (AC a 30 s.heap.size) s.heap H locs → lv_has ls 12 [(0, .ref (a 0)), (1, .int v1), (2, .int v2), (3, .int v3), (4, .int v4), (5, .int v5), (8, .int v6), (10, .int v7), (11, .int v8)] → mX8_refusal_304 s9 v1 v2 v3 v4 v5 v6 v7 v8 = some (r, τ) → W p l e (headSpec zX8_refusal ({ frames := 258, cells := 0, slots := 0, locals := 5936 })).room s m ([.ref (a 0), .int p1, .int p2, .int p3, .int p4, .int p5] : List Value).toArray below meth c H locs 0 0 (MQ below (va_Qi (fun r' u => r' = r ∧ u = τ) (posW (wM y a) D) (AC a 30 s.heap.size)) ([.ref (a 0), .int p1, .int p2, .int p3, .int p4, .int p5] : List Value).toArray s 0 0 (AC a 30 s.heap.size)) (F0 m 304 ls []) := by
    intro s9 v1 v2 v3 v4 v5 v6 v7 v8 H locs ls hP hS hl hm
    unfold mX8_refusal_304 at hm
    refine lv_iload hx hb dX8_refusal_304 (lv_at hl 8 rfl) ?_
    refine lv_if_ne (tgt := 313) hx hb dX8_refusal_306 (by decide) (fun c10 => ?_) (fun c10 => ?_)
    · have hm := (if_neg c10).symm.trans hm
      refine lv_aload_n hx hb dX8_refusal_313 rfl (lv_at hl 0 rfl) ?_
      refine lv_iload_n hx hb dX8_refusal_314 rfl (lv_at hl 1 rfl) ?_
      refine lv_iload_n hx hb dX8_refusal_315 rfl (lv_at hl 2 rfl) ?_
      refine lv_iload hx hb dX8_refusal_316 (lv_at hl 6 rfl) ?_
      refine lv_iload hx hb dX8_refusal_318 (lv_at hl 7 rfl) ?_
      refine lv_iload_n hx hb dX8_refusal_320 rfl (lv_at hl 3 rfl) ?_
      refine lv_iload hx hb dX8_refusal_321 (lv_at hl 4 rfl) ?_
      refine lv_iload hx hb dX8_refusal_323 (lv_at hl 5 rfl) ?_
      obtain ⟨r11, h12, hm⟩ := ok_bind hm
      refine calV_i (As := [.int v1, .int v2, .int v6, .int v7, .int v3, .int v4, .int v5]) (rest := []) ⟨hx, hb, hml, hown, hts⟩ (kX8_gives l D y a t hI _ s9 v1 v2 v6 v7 v3 v4 v5 r11 h12) (cwV 7 hts (gAV aM_X8_249 aI_X8_gives aS_X8_gives aN_X8 aC_X8_gives) rfl rfl rfl eX8_gives ⟨Nat.le_of_ble_eq_true rfl, Nat.le_of_ble_eq_true rfl⟩) (preV_W (ci := 8) (q := (RX8, TX8, 42)) hK hP hF hS rfl (wM_0 y a s9)) rfl hl.1 rfl (Nat.le_of_ble_eq_true rfl) dX8_refusal_325 ⟨Nat.zero_le _, Nat.zero_le _⟩ hS (AC_le hS.1) (fun H locs hP hS hk1 => ?_)
      refine lv_if_eq (tgt := 335) hx hb dX8_refusal_328 (by decide) (fun c13 => ?_) (fun c13 => ?_)
      · have hm := (if_pos c13).symm.trans hm
        refine lv_iconst (v := 3) hx hb dX8_refusal_335 (by decide) ?_
        exact W.iret (v := 3) hx hb hr (fun T hT hW => ⟨⟨3, s9, rfl, ⟨congrArg Prod.fst (Option.some.inj hm), congrArg Prod.snd (Option.some.inj hm)⟩, by rw [posW, hT]; exact hP⟩, hS.F hT⟩) hS.2.2 dX8_refusal_336
      · have hm := (if_neg c13).symm.trans hm
        refine lv_iconst (v := 0) hx hb dX8_refusal_331 (by decide) ?_
        refine lv_goto (tgt := 336) hx hb dX8_refusal_332 (by decide) ?_
        exact W.iret (v := 0) hx hb hr (fun T hT hW => ⟨⟨0, s9, rfl, ⟨congrArg Prod.fst (Option.some.inj hm), congrArg Prod.snd (Option.some.inj hm)⟩, by rw [posW, hT]; exact hP⟩, hS.F hT⟩) hS.2.2 dX8_refusal_336
    · have hm := (if_pos c10).symm.trans hm
      refine lv_iconst (v := 2) hx hb dX8_refusal_309 (by decide) ?_
      refine lv_goto (tgt := 336) hx hb dX8_refusal_310 (by decide) ?_
      exact W.iret (v := 2) hx hb hr (fun T hT hW => ⟨⟨2, s9, rfl, ⟨congrArg Prod.fst (Option.some.inj hm), congrArg Prod.snd (Option.some.inj hm)⟩, by rw [posW, hT]; exact hP⟩, hS.F hT⟩) hS.2.2 dX8_refusal_336
  have L_302 : ∀ (s22 : St) (v14 : Int32) (v15 : Int32) (v16 : Int32) (v17 : Int32) (v18 : Int32) (v19 : Int32) (v20 : Int32) (v21 : Int32) (H : Heap) (locs : List Loc) (ls : Array Slot), va_P D vwCl (wM y a s22) H → va_S (AC a 30 s.heap.size) s.heap H locs → lv_has ls 12 [(0, .ref (a 0)), (1, .int v14), (2, .int v15), (3, .int v16), (4, .int v17), (5, .int v18), (8, .int v19), (10, .int v20)] → mX8_refusal_302 s22 v14 v15 v16 v17 v18 v19 v20 v21 = some (r, τ) → W p l e (headSpec zX8_refusal ({ frames := 258, cells := 0, slots := 0, locals := 5936 })).room s m ([.ref (a 0), .int p1, .int p2, .int p3, .int p4, .int p5] : List Value).toArray below meth c H locs 0 0 (MQ below (va_Qi (fun r' u => r' = r ∧ u = τ) (posW (wM y a) D) (AC a 30 s.heap.size)) ([.ref (a 0), .int p1, .int p2, .int p3, .int p4, .int p5] : List Value).toArray s 0 0 (AC a 30 s.heap.size)) (F0 m 302 ls [.int v21]) := by
    intro s22 v14 v15 v16 v17 v18 v19 v20 v21 H locs ls hP hS hl hm
    unfold mX8_refusal_302 at hm
    refine lv_istore (lv' := [(11, .int v21), (0, .ref (a 0)), (1, .int v14), (2, .int v15), (3, .int v16), (4, .int v17), (5, .int v18), (8, .int v19), (10, .int v20)]) hx hb dX8_refusal_302 hl (by decide) rfl (fun ls hl => ?_)
    exact L_304 s22 v14 v15 v16 v17 v18 v19 v20 v21 _ _ _ hP hS (lv_sub hl [1, 2, 3, 4, 5, 6, 7, 8, 0] rfl) hm
  have L_301 : ∀ (s30 : St) (v23 : Int32) (v24 : Int32) (v25 : Int32) (v26 : Int32) (v27 : Int32) (v28 : Int32) (v29 : Int32) (H : Heap) (locs : List Loc) (ls : Array Slot), va_P D vwCl (wM y a s30) H → va_S (AC a 30 s.heap.size) s.heap H locs → lv_has ls 12 [(0, .ref (a 0)), (1, .int v23), (2, .int v24), (3, .int v25), (4, .int v26), (5, .int v27), (8, .int v28), (10, .int v29)] → mX8_refusal_301 s30 v23 v24 v25 v26 v27 v28 v29 = some (r, τ) → W p l e (headSpec zX8_refusal ({ frames := 258, cells := 0, slots := 0, locals := 5936 })).room s m ([.ref (a 0), .int p1, .int p2, .int p3, .int p4, .int p5] : List Value).toArray below meth c H locs 0 0 (MQ below (va_Qi (fun r' u => r' = r ∧ u = τ) (posW (wM y a) D) (AC a 30 s.heap.size)) ([.ref (a 0), .int p1, .int p2, .int p3, .int p4, .int p5] : List Value).toArray s 0 0 (AC a 30 s.heap.size)) (F0 m 301 ls []) := by
    intro s30 v23 v24 v25 v26 v27 v28 v29 H locs ls hP hS hl hm
    unfold mX8_refusal_301 at hm
    refine lv_iconst (v := 0) hx hb dX8_refusal_301 (by decide) ?_
    exact L_302 s30 v23 v24 v25 v26 v27 v28 v29 0 _ _ _ hP hS (lv_sub hl [0, 1, 2, 3, 4, 5, 6, 7] rfl) hm
  have L_269 : ∀ (s40 : St) (v31 : Int32) (v32 : Int32) (v33 : Int32) (v34 : Int32) (v35 : Int32) (v36 : Int32) (v37 : Int32) (v38 : Int32) (v39 : Int32) (H : Heap) (locs : List Loc) (ls : Array Slot), va_P D vwCl (wM y a s40) H → va_S (AC a 30 s.heap.size) s.heap H locs → lv_has ls 12 [(0, .ref (a 0)), (1, .int v31), (2, .int v32), (3, .int v33), (4, .int v34), (5, .int v35), (8, .int v36), (9, .int v37), (10, .int v38), (11, .int v39)] → mX8_refusal_269 s40 v31 v32 v33 v34 v35 v36 v37 v38 v39 = some (r, τ) → W p l e (headSpec zX8_refusal ({ frames := 258, cells := 0, slots := 0, locals := 5936 })).room s m ([.ref (a 0), .int p1, .int p2, .int p3, .int p4, .int p5] : List Value).toArray below meth c H locs 0 0 (MQ below (va_Qi (fun r' u => r' = r ∧ u = τ) (posW (wM y a) D) (AC a 30 s.heap.size)) ([.ref (a 0), .int p1, .int p2, .int p3, .int p4, .int p5] : List Value).toArray s 0 0 (AC a 30 s.heap.size)) (F0 m 269 ls []) := by
    intro s40 v31 v32 v33 v34 v35 v36 v37 v38 v39 H locs ls hP hS hl hm
    unfold mX8_refusal_269 at hm
    refine lv_iload_n hx hb dX8_refusal_269 rfl (lv_at hl 1 rfl) ?_
    refine lv_bipush (v := 12) hx hb dX8_refusal_270 (by decide) ?_
    refine lv_icmp_ne (tgt := 304) hx hb dX8_refusal_272 (by decide) (fun c41 => ?_) (fun c41 => ?_)
    · have hm := (if_neg c41).symm.trans hm
      exact L_304 s40 v31 v32 v33 v34 v35 v36 v38 v39 _ _ _ hP hS (lv_sub hl [0, 1, 2, 3, 4, 5, 6, 8, 9] rfl) hm
    · have hm := (if_pos c41).symm.trans hm
      refine lv_iload hx hb dX8_refusal_275 (lv_at hl 7 rfl) ?_
      refine lv_iconst (v := 2) hx hb dX8_refusal_277 (by decide) ?_
      refine lv_icmp_ne (tgt := 301) hx hb dX8_refusal_278 (by decide) (fun c42 => ?_) (fun c42 => ?_)
      · have hm := (if_neg c42).symm.trans hm
        exact L_301 s40 v31 v32 v33 v34 v35 v36 v38 _ _ _ hP hS (lv_sub hl [0, 1, 2, 3, 4, 5, 6, 8] rfl) hm
      · have hm := (if_pos c42).symm.trans hm
        refine lv_aload_n hx hb dX8_refusal_281 rfl (lv_at hl 0 rfl) ?_
        refine gfX8_sorts hx hb h_X8 hown hK hP l_f20 dX8_refusal_282 ?_
        refine lv_aload_n hx hb dX8_refusal_285 rfl (lv_at hl 0 rfl) ?_
        refine gfX8_firsts hx hb h_X8 hown hK hP l_f23 dX8_refusal_286 ?_
        refine lv_iload hx hb dX8_refusal_289 (lv_at hl 6 rfl) ?_
        obtain ⟨hi, hm⟩ := ok_I hm
        refine ldM_4 hx hb hK hP hi dX8_refusal_291 ?_
        obtain ⟨hi, hm⟩ := ok_I hm
        refine ldM_3 hx hb hK hP hi dX8_refusal_292 ?_
        refine lv_iconst (v := 2) hx hb dX8_refusal_293 (by decide) ?_
        refine lv_icmp_ne (tgt := 301) hx hb dX8_refusal_294 (by decide) (fun c43 => ?_) (fun c43 => ?_)
        · have hm := (if_neg c43).symm.trans hm
          exact L_301 s40 v31 v32 v33 v34 v35 v36 v38 _ _ _ hP hS (lv_sub hl [0, 1, 2, 3, 4, 5, 6, 8] rfl) hm
        · have hm := (if_pos c43).symm.trans hm
          refine lv_iconst (v := 1) hx hb dX8_refusal_297 (by decide) ?_
          refine lv_goto (tgt := 302) hx hb dX8_refusal_298 (by decide) ?_
          exact L_302 s40 v31 v32 v33 v34 v35 v36 v38 1 _ _ _ hP hS (lv_sub hl [0, 1, 2, 3, 4, 5, 6, 8] rfl) hm
  have L_267 : ∀ (s53 : St) (v44 : Int32) (v45 : Int32) (v46 : Int32) (v47 : Int32) (v48 : Int32) (v49 : Int32) (v50 : Int32) (v51 : Int32) (v52 : Int32) (H : Heap) (locs : List Loc) (ls : Array Slot), va_P D vwCl (wM y a s53) H → va_S (AC a 30 s.heap.size) s.heap H locs → lv_has ls 12 [(0, .ref (a 0)), (1, .int v44), (2, .int v45), (3, .int v46), (4, .int v47), (5, .int v48), (8, .int v49), (9, .int v50), (10, .int v51)] → mX8_refusal_267 s53 v44 v45 v46 v47 v48 v49 v50 v51 v52 = some (r, τ) → W p l e (headSpec zX8_refusal ({ frames := 258, cells := 0, slots := 0, locals := 5936 })).room s m ([.ref (a 0), .int p1, .int p2, .int p3, .int p4, .int p5] : List Value).toArray below meth c H locs 0 0 (MQ below (va_Qi (fun r' u => r' = r ∧ u = τ) (posW (wM y a) D) (AC a 30 s.heap.size)) ([.ref (a 0), .int p1, .int p2, .int p3, .int p4, .int p5] : List Value).toArray s 0 0 (AC a 30 s.heap.size)) (F0 m 267 ls [.int v52]) := by
    intro s53 v44 v45 v46 v47 v48 v49 v50 v51 v52 H locs ls hP hS hl hm
    unfold mX8_refusal_267 at hm
    refine lv_istore (lv' := [(11, .int v52), (0, .ref (a 0)), (1, .int v44), (2, .int v45), (3, .int v46), (4, .int v47), (5, .int v48), (8, .int v49), (9, .int v50), (10, .int v51)]) hx hb dX8_refusal_267 hl (by decide) rfl (fun ls hl => ?_)
    exact L_269 s53 v44 v45 v46 v47 v48 v49 v50 v51 v52 _ _ _ hP hS (lv_sub hl [1, 2, 3, 4, 5, 6, 7, 8, 9, 0] rfl) hm
  have L_245 : ∀ (s63 : St) (v54 : Int32) (v55 : Int32) (v56 : Int32) (v57 : Int32) (v58 : Int32) (v59 : Int32) (v60 : Int32) (v61 : Int32) (v62 : Int32) (H : Heap) (locs : List Loc) (ls : Array Slot), va_P D vwCl (wM y a s63) H → va_S (AC a 30 s.heap.size) s.heap H locs → lv_has ls 12 [(0, .ref (a 0)), (1, .int v54), (2, .int v55), (3, .int v56), (4, .int v57), (5, .int v58), (8, .int v59), (9, .int v60), (10, .int v61), (11, .int v62)] → mX8_refusal_245 s63 v54 v55 v56 v57 v58 v59 v60 v61 v62 = some (r, τ) → W p l e (headSpec zX8_refusal ({ frames := 258, cells := 0, slots := 0, locals := 5936 })).room s m ([.ref (a 0), .int p1, .int p2, .int p3, .int p4, .int p5] : List Value).toArray below meth c H locs 0 0 (MQ below (va_Qi (fun r' u => r' = r ∧ u = τ) (posW (wM y a) D) (AC a 30 s.heap.size)) ([.ref (a 0), .int p1, .int p2, .int p3, .int p4, .int p5] : List Value).toArray s 0 0 (AC a 30 s.heap.size)) (F0 m 245 ls []) := by
    intro s63 v54 v55 v56 v57 v58 v59 v60 v61 v62 H locs ls hP hS hl hm
    unfold mX8_refusal_245 at hm
    refine lv_iload_n hx hb dX8_refusal_245 rfl (lv_at hl 1 rfl) ?_
    refine lv_bipush (v := 10) hx hb dX8_refusal_246 (by decide) ?_
    refine lv_icmp_ne (tgt := 269) hx hb dX8_refusal_248 (by decide) (fun c64 => ?_) (fun c64 => ?_)
    · have hm := (if_neg c64).symm.trans hm
      exact L_269 s63 v54 v55 v56 v57 v58 v59 v60 v61 v62 _ _ _ hP hS (lv_sub hl [0, 1, 2, 3, 4, 5, 6, 7, 8, 9] rfl) hm
    · have hm := (if_pos c64).symm.trans hm
      refine lv_aload_n hx hb dX8_refusal_251 rfl (lv_at hl 0 rfl) ?_
      refine gfX8_sorts hx hb h_X8 hown hK hP l_f20 dX8_refusal_252 ?_
      refine lv_iload hx hb dX8_refusal_255 (lv_at hl 8 rfl) ?_
      obtain ⟨hi, hm⟩ := ok_I hm
      refine ldM_3 hx hb hK hP hi dX8_refusal_257 ?_
      refine lv_iconst (v := 2) hx hb dX8_refusal_258 (by decide) ?_
      refine lv_icmp_ne (tgt := 266) hx hb dX8_refusal_259 (by decide) (fun c65 => ?_) (fun c65 => ?_)
      · have hm := (if_neg c65).symm.trans hm
        refine lv_iconst (v := 0) hx hb dX8_refusal_266 (by decide) ?_
        exact L_267 s63 v54 v55 v56 v57 v58 v59 v60 v61 0 _ _ _ hP hS (lv_sub hl [0, 1, 2, 3, 4, 5, 6, 7, 8] rfl) hm
      · have hm := (if_pos c65).symm.trans hm
        refine lv_iconst (v := 1) hx hb dX8_refusal_262 (by decide) ?_
        refine lv_goto (tgt := 267) hx hb dX8_refusal_263 (by decide) ?_
        exact L_267 s63 v54 v55 v56 v57 v58 v59 v60 v61 1 _ _ _ hP hS (lv_sub hl [0, 1, 2, 3, 4, 5, 6, 7, 8] rfl) hm
  have L_243 : ∀ (s75 : St) (v66 : Int32) (v67 : Int32) (v68 : Int32) (v69 : Int32) (v70 : Int32) (v71 : Int32) (v72 : Int32) (v73 : Int32) (v74 : Int32) (H : Heap) (locs : List Loc) (ls : Array Slot), va_P D vwCl (wM y a s75) H → va_S (AC a 30 s.heap.size) s.heap H locs → lv_has ls 12 [(0, .ref (a 0)), (1, .int v66), (2, .int v67), (3, .int v68), (4, .int v69), (5, .int v70), (8, .int v71), (9, .int v72), (10, .int v73)] → mX8_refusal_243 s75 v66 v67 v68 v69 v70 v71 v72 v73 v74 = some (r, τ) → W p l e (headSpec zX8_refusal ({ frames := 258, cells := 0, slots := 0, locals := 5936 })).room s m ([.ref (a 0), .int p1, .int p2, .int p3, .int p4, .int p5] : List Value).toArray below meth c H locs 0 0 (MQ below (va_Qi (fun r' u => r' = r ∧ u = τ) (posW (wM y a) D) (AC a 30 s.heap.size)) ([.ref (a 0), .int p1, .int p2, .int p3, .int p4, .int p5] : List Value).toArray s 0 0 (AC a 30 s.heap.size)) (F0 m 243 ls [.int v74]) := by
    intro s75 v66 v67 v68 v69 v70 v71 v72 v73 v74 H locs ls hP hS hl hm
    unfold mX8_refusal_243 at hm
    refine lv_istore (lv' := [(11, .int v74), (0, .ref (a 0)), (1, .int v66), (2, .int v67), (3, .int v68), (4, .int v69), (5, .int v70), (8, .int v71), (9, .int v72), (10, .int v73)]) hx hb dX8_refusal_243 hl (by decide) rfl (fun ls hl => ?_)
    exact L_245 s75 v66 v67 v68 v69 v70 v71 v72 v73 v74 _ _ _ hP hS (lv_sub hl [1, 2, 3, 4, 5, 6, 7, 8, 9, 0] rfl) hm
  have L_232 : ∀ (s84 : St) (v76 : Int32) (v77 : Int32) (v78 : Int32) (v79 : Int32) (v80 : Int32) (v81 : Int32) (v82 : Int32) (v83 : Int32) (H : Heap) (locs : List Loc) (ls : Array Slot), va_P D vwCl (wM y a s84) H → va_S (AC a 30 s.heap.size) s.heap H locs → lv_has ls 12 [(0, .ref (a 0)), (1, .int v76), (2, .int v77), (3, .int v78), (4, .int v79), (5, .int v80), (8, .int v81), (9, .int v82), (10, .int v83)] → mX8_refusal_232 s84 v76 v77 v78 v79 v80 v81 v82 v83 = some (r, τ) → W p l e (headSpec zX8_refusal ({ frames := 258, cells := 0, slots := 0, locals := 5936 })).room s m ([.ref (a 0), .int p1, .int p2, .int p3, .int p4, .int p5] : List Value).toArray below meth c H locs 0 0 (MQ below (va_Qi (fun r' u => r' = r ∧ u = τ) (posW (wM y a) D) (AC a 30 s.heap.size)) ([.ref (a 0), .int p1, .int p2, .int p3, .int p4, .int p5] : List Value).toArray s 0 0 (AC a 30 s.heap.size)) (F0 m 232 ls []) := by
    intro s84 v76 v77 v78 v79 v80 v81 v82 v83 H locs ls hP hS hl hm
    unfold mX8_refusal_232 at hm
    refine lv_iload hx hb dX8_refusal_232 (lv_at hl 7 rfl) ?_
    refine lv_iconst (v := 1) hx hb dX8_refusal_234 (by decide) ?_
    refine lv_icmp_ne (tgt := 242) hx hb dX8_refusal_235 (by decide) (fun c85 => ?_) (fun c85 => ?_)
    · have hm := (if_neg c85).symm.trans hm
      refine lv_iconst (v := 0) hx hb dX8_refusal_242 (by decide) ?_
      exact L_243 s84 v76 v77 v78 v79 v80 v81 v82 v83 0 _ _ _ hP hS (lv_sub hl [0, 1, 2, 3, 4, 5, 6, 7, 8] rfl) hm
    · have hm := (if_pos c85).symm.trans hm
      refine lv_iconst (v := 1) hx hb dX8_refusal_238 (by decide) ?_
      refine lv_goto (tgt := 243) hx hb dX8_refusal_239 (by decide) ?_
      exact L_243 s84 v76 v77 v78 v79 v80 v81 v82 v83 1 _ _ _ hP hS (lv_sub hl [0, 1, 2, 3, 4, 5, 6, 7, 8] rfl) hm
  have L_220 : ∀ (s95 : St) (v86 : Int32) (v87 : Int32) (v88 : Int32) (v89 : Int32) (v90 : Int32) (v91 : Int32) (v92 : Int32) (v93 : Int32) (v94 : Int32) (H : Heap) (locs : List Loc) (ls : Array Slot), va_P D vwCl (wM y a s95) H → va_S (AC a 30 s.heap.size) s.heap H locs → lv_has ls 12 [(0, .ref (a 0)), (1, .int v86), (2, .int v87), (3, .int v88), (4, .int v89), (5, .int v90), (8, .int v91), (9, .int v92), (10, .int v93), (11, .int v94)] → mX8_refusal_220 s95 v86 v87 v88 v89 v90 v91 v92 v93 v94 = some (r, τ) → W p l e (headSpec zX8_refusal ({ frames := 258, cells := 0, slots := 0, locals := 5936 })).room s m ([.ref (a 0), .int p1, .int p2, .int p3, .int p4, .int p5] : List Value).toArray below meth c H locs 0 0 (MQ below (va_Qi (fun r' u => r' = r ∧ u = τ) (posW (wM y a) D) (AC a 30 s.heap.size)) ([.ref (a 0), .int p1, .int p2, .int p3, .int p4, .int p5] : List Value).toArray s 0 0 (AC a 30 s.heap.size)) (F0 m 220 ls []) := by
    intro s95 v86 v87 v88 v89 v90 v91 v92 v93 v94 H locs ls hP hS hl hm
    unfold mX8_refusal_220 at hm
    refine lv_iload_n hx hb dX8_refusal_220 rfl (lv_at hl 1 rfl) ?_
    refine lv_bipush (v := 9) hx hb dX8_refusal_221 (by decide) ?_
    refine lv_icmp_eq (tgt := 232) hx hb dX8_refusal_223 (by decide) (fun c96 => ?_) (fun c96 => ?_)
    · have hm := (if_pos c96).symm.trans hm
      exact L_232 s95 v86 v87 v88 v89 v90 v91 v92 v93 _ _ _ hP hS (lv_sub hl [0, 1, 2, 3, 4, 5, 6, 7, 8] rfl) hm
    · have hm := (if_neg c96).symm.trans hm
      refine lv_iload_n hx hb dX8_refusal_226 rfl (lv_at hl 1 rfl) ?_
      refine lv_bipush (v := 11) hx hb dX8_refusal_227 (by decide) ?_
      refine lv_icmp_ne (tgt := 245) hx hb dX8_refusal_229 (by decide) (fun c97 => ?_) (fun c97 => ?_)
      · have hm := (if_neg c97).symm.trans hm
        exact L_245 s95 v86 v87 v88 v89 v90 v91 v92 v93 v94 _ _ _ hP hS (lv_sub hl [0, 1, 2, 3, 4, 5, 6, 7, 8, 9] rfl) hm
      · have hm := (if_pos c97).symm.trans hm
        exact L_232 s95 v86 v87 v88 v89 v90 v91 v92 v93 _ _ _ hP hS (lv_sub hl [0, 1, 2, 3, 4, 5, 6, 7, 8] rfl) hm
  have L_218 : ∀ (s107 : St) (v98 : Int32) (v99 : Int32) (v100 : Int32) (v101 : Int32) (v102 : Int32) (v103 : Int32) (v104 : Int32) (v105 : Int32) (v106 : Int32) (H : Heap) (locs : List Loc) (ls : Array Slot), va_P D vwCl (wM y a s107) H → va_S (AC a 30 s.heap.size) s.heap H locs → lv_has ls 12 [(0, .ref (a 0)), (1, .int v98), (2, .int v99), (3, .int v100), (4, .int v101), (5, .int v102), (8, .int v103), (9, .int v104), (10, .int v105)] → mX8_refusal_218 s107 v98 v99 v100 v101 v102 v103 v104 v105 v106 = some (r, τ) → W p l e (headSpec zX8_refusal ({ frames := 258, cells := 0, slots := 0, locals := 5936 })).room s m ([.ref (a 0), .int p1, .int p2, .int p3, .int p4, .int p5] : List Value).toArray below meth c H locs 0 0 (MQ below (va_Qi (fun r' u => r' = r ∧ u = τ) (posW (wM y a) D) (AC a 30 s.heap.size)) ([.ref (a 0), .int p1, .int p2, .int p3, .int p4, .int p5] : List Value).toArray s 0 0 (AC a 30 s.heap.size)) (F0 m 218 ls [.int v106]) := by
    intro s107 v98 v99 v100 v101 v102 v103 v104 v105 v106 H locs ls hP hS hl hm
    unfold mX8_refusal_218 at hm
    refine lv_istore (lv' := [(11, .int v106), (0, .ref (a 0)), (1, .int v98), (2, .int v99), (3, .int v100), (4, .int v101), (5, .int v102), (8, .int v103), (9, .int v104), (10, .int v105)]) hx hb dX8_refusal_218 hl (by decide) rfl (fun ls hl => ?_)
    exact L_220 s107 v98 v99 v100 v101 v102 v103 v104 v105 v106 _ _ _ hP hS (lv_sub hl [1, 2, 3, 4, 5, 6, 7, 8, 9, 0] rfl) hm
  have L_201 : ∀ (s117 : St) (v108 : Int32) (v109 : Int32) (v110 : Int32) (v111 : Int32) (v112 : Int32) (v113 : Int32) (v114 : Int32) (v115 : Int32) (v116 : Int32) (H : Heap) (locs : List Loc) (ls : Array Slot), va_P D vwCl (wM y a s117) H → va_S (AC a 30 s.heap.size) s.heap H locs → lv_has ls 12 [(0, .ref (a 0)), (1, .int v108), (2, .int v109), (3, .int v110), (4, .int v111), (5, .int v112), (8, .int v113), (9, .int v114), (10, .int v115), (11, .int v116)] → mX8_refusal_201 s117 v108 v109 v110 v111 v112 v113 v114 v115 v116 = some (r, τ) → W p l e (headSpec zX8_refusal ({ frames := 258, cells := 0, slots := 0, locals := 5936 })).room s m ([.ref (a 0), .int p1, .int p2, .int p3, .int p4, .int p5] : List Value).toArray below meth c H locs 0 0 (MQ below (va_Qi (fun r' u => r' = r ∧ u = τ) (posW (wM y a) D) (AC a 30 s.heap.size)) ([.ref (a 0), .int p1, .int p2, .int p3, .int p4, .int p5] : List Value).toArray s 0 0 (AC a 30 s.heap.size)) (F0 m 201 ls []) := by
    intro s117 v108 v109 v110 v111 v112 v113 v114 v115 v116 H locs ls hP hS hl hm
    unfold mX8_refusal_201 at hm
    refine lv_iload_n hx hb dX8_refusal_201 rfl (lv_at hl 1 rfl) ?_
    refine lv_bipush (v := 8) hx hb dX8_refusal_202 (by decide) ?_
    refine lv_icmp_ne (tgt := 220) hx hb dX8_refusal_204 (by decide) (fun c118 => ?_) (fun c118 => ?_)
    · have hm := (if_neg c118).symm.trans hm
      exact L_220 s117 v108 v109 v110 v111 v112 v113 v114 v115 v116 _ _ _ hP hS (lv_sub hl [0, 1, 2, 3, 4, 5, 6, 7, 8, 9] rfl) hm
    · have hm := (if_pos c118).symm.trans hm
      refine lv_iload hx hb dX8_refusal_207 (lv_at hl 7 rfl) ?_
      refine lv_iconst (v := 5) hx hb dX8_refusal_209 (by decide) ?_
      refine lv_icmp_ne (tgt := 217) hx hb dX8_refusal_210 (by decide) (fun c119 => ?_) (fun c119 => ?_)
      · have hm := (if_neg c119).symm.trans hm
        refine lv_iconst (v := 0) hx hb dX8_refusal_217 (by decide) ?_
        exact L_218 s117 v108 v109 v110 v111 v112 v113 v114 v115 0 _ _ _ hP hS (lv_sub hl [0, 1, 2, 3, 4, 5, 6, 7, 8] rfl) hm
      · have hm := (if_pos c119).symm.trans hm
        refine lv_iconst (v := 1) hx hb dX8_refusal_213 (by decide) ?_
        refine lv_goto (tgt := 218) hx hb dX8_refusal_214 (by decide) ?_
        exact L_218 s117 v108 v109 v110 v111 v112 v113 v114 v115 1 _ _ _ hP hS (lv_sub hl [0, 1, 2, 3, 4, 5, 6, 7, 8] rfl) hm
  have L_199 : ∀ (s129 : St) (v120 : Int32) (v121 : Int32) (v122 : Int32) (v123 : Int32) (v124 : Int32) (v125 : Int32) (v126 : Int32) (v127 : Int32) (v128 : Int32) (H : Heap) (locs : List Loc) (ls : Array Slot), va_P D vwCl (wM y a s129) H → va_S (AC a 30 s.heap.size) s.heap H locs → lv_has ls 12 [(0, .ref (a 0)), (1, .int v120), (2, .int v121), (3, .int v122), (4, .int v123), (5, .int v124), (8, .int v125), (9, .int v126), (10, .int v127)] → mX8_refusal_199 s129 v120 v121 v122 v123 v124 v125 v126 v127 v128 = some (r, τ) → W p l e (headSpec zX8_refusal ({ frames := 258, cells := 0, slots := 0, locals := 5936 })).room s m ([.ref (a 0), .int p1, .int p2, .int p3, .int p4, .int p5] : List Value).toArray below meth c H locs 0 0 (MQ below (va_Qi (fun r' u => r' = r ∧ u = τ) (posW (wM y a) D) (AC a 30 s.heap.size)) ([.ref (a 0), .int p1, .int p2, .int p3, .int p4, .int p5] : List Value).toArray s 0 0 (AC a 30 s.heap.size)) (F0 m 199 ls [.int v128]) := by
    intro s129 v120 v121 v122 v123 v124 v125 v126 v127 v128 H locs ls hP hS hl hm
    unfold mX8_refusal_199 at hm
    refine lv_istore (lv' := [(11, .int v128), (0, .ref (a 0)), (1, .int v120), (2, .int v121), (3, .int v122), (4, .int v123), (5, .int v124), (8, .int v125), (9, .int v126), (10, .int v127)]) hx hb dX8_refusal_199 hl (by decide) rfl (fun ls hl => ?_)
    exact L_201 s129 v120 v121 v122 v123 v124 v125 v126 v127 v128 _ _ _ hP hS (lv_sub hl [1, 2, 3, 4, 5, 6, 7, 8, 9, 0] rfl) hm
  have L_182 : ∀ (s139 : St) (v130 : Int32) (v131 : Int32) (v132 : Int32) (v133 : Int32) (v134 : Int32) (v135 : Int32) (v136 : Int32) (v137 : Int32) (v138 : Int32) (H : Heap) (locs : List Loc) (ls : Array Slot), va_P D vwCl (wM y a s139) H → va_S (AC a 30 s.heap.size) s.heap H locs → lv_has ls 12 [(0, .ref (a 0)), (1, .int v130), (2, .int v131), (3, .int v132), (4, .int v133), (5, .int v134), (8, .int v135), (9, .int v136), (10, .int v137), (11, .int v138)] → mX8_refusal_182 s139 v130 v131 v132 v133 v134 v135 v136 v137 v138 = some (r, τ) → W p l e (headSpec zX8_refusal ({ frames := 258, cells := 0, slots := 0, locals := 5936 })).room s m ([.ref (a 0), .int p1, .int p2, .int p3, .int p4, .int p5] : List Value).toArray below meth c H locs 0 0 (MQ below (va_Qi (fun r' u => r' = r ∧ u = τ) (posW (wM y a) D) (AC a 30 s.heap.size)) ([.ref (a 0), .int p1, .int p2, .int p3, .int p4, .int p5] : List Value).toArray s 0 0 (AC a 30 s.heap.size)) (F0 m 182 ls []) := by
    intro s139 v130 v131 v132 v133 v134 v135 v136 v137 v138 H locs ls hP hS hl hm
    unfold mX8_refusal_182 at hm
    refine lv_iload_n hx hb dX8_refusal_182 rfl (lv_at hl 1 rfl) ?_
    refine lv_bipush (v := 6) hx hb dX8_refusal_183 (by decide) ?_
    refine lv_icmp_ne (tgt := 201) hx hb dX8_refusal_185 (by decide) (fun c140 => ?_) (fun c140 => ?_)
    · have hm := (if_neg c140).symm.trans hm
      exact L_201 s139 v130 v131 v132 v133 v134 v135 v136 v137 v138 _ _ _ hP hS (lv_sub hl [0, 1, 2, 3, 4, 5, 6, 7, 8, 9] rfl) hm
    · have hm := (if_pos c140).symm.trans hm
      refine lv_iload hx hb dX8_refusal_188 (lv_at hl 7 rfl) ?_
      refine lv_iconst (v := 4) hx hb dX8_refusal_190 (by decide) ?_
      refine lv_icmp_ne (tgt := 198) hx hb dX8_refusal_191 (by decide) (fun c141 => ?_) (fun c141 => ?_)
      · have hm := (if_neg c141).symm.trans hm
        refine lv_iconst (v := 0) hx hb dX8_refusal_198 (by decide) ?_
        exact L_199 s139 v130 v131 v132 v133 v134 v135 v136 v137 0 _ _ _ hP hS (lv_sub hl [0, 1, 2, 3, 4, 5, 6, 7, 8] rfl) hm
      · have hm := (if_pos c141).symm.trans hm
        refine lv_iconst (v := 1) hx hb dX8_refusal_194 (by decide) ?_
        refine lv_goto (tgt := 199) hx hb dX8_refusal_195 (by decide) ?_
        exact L_199 s139 v130 v131 v132 v133 v134 v135 v136 v137 1 _ _ _ hP hS (lv_sub hl [0, 1, 2, 3, 4, 5, 6, 7, 8] rfl) hm
  have L_180 : ∀ (s151 : St) (v142 : Int32) (v143 : Int32) (v144 : Int32) (v145 : Int32) (v146 : Int32) (v147 : Int32) (v148 : Int32) (v149 : Int32) (v150 : Int32) (H : Heap) (locs : List Loc) (ls : Array Slot), va_P D vwCl (wM y a s151) H → va_S (AC a 30 s.heap.size) s.heap H locs → lv_has ls 12 [(0, .ref (a 0)), (1, .int v142), (2, .int v143), (3, .int v144), (4, .int v145), (5, .int v146), (8, .int v147), (9, .int v148), (10, .int v149)] → mX8_refusal_180 s151 v142 v143 v144 v145 v146 v147 v148 v149 v150 = some (r, τ) → W p l e (headSpec zX8_refusal ({ frames := 258, cells := 0, slots := 0, locals := 5936 })).room s m ([.ref (a 0), .int p1, .int p2, .int p3, .int p4, .int p5] : List Value).toArray below meth c H locs 0 0 (MQ below (va_Qi (fun r' u => r' = r ∧ u = τ) (posW (wM y a) D) (AC a 30 s.heap.size)) ([.ref (a 0), .int p1, .int p2, .int p3, .int p4, .int p5] : List Value).toArray s 0 0 (AC a 30 s.heap.size)) (F0 m 180 ls [.int v150]) := by
    intro s151 v142 v143 v144 v145 v146 v147 v148 v149 v150 H locs ls hP hS hl hm
    unfold mX8_refusal_180 at hm
    refine lv_istore (lv' := [(11, .int v150), (0, .ref (a 0)), (1, .int v142), (2, .int v143), (3, .int v144), (4, .int v145), (5, .int v146), (8, .int v147), (9, .int v148), (10, .int v149)]) hx hb dX8_refusal_180 hl (by decide) rfl (fun ls hl => ?_)
    exact L_182 s151 v142 v143 v144 v145 v146 v147 v148 v149 v150 _ _ _ hP hS (lv_sub hl [1, 2, 3, 4, 5, 6, 7, 8, 9, 0] rfl) hm
  have L_169 : ∀ (s160 : St) (v152 : Int32) (v153 : Int32) (v154 : Int32) (v155 : Int32) (v156 : Int32) (v157 : Int32) (v158 : Int32) (v159 : Int32) (H : Heap) (locs : List Loc) (ls : Array Slot), va_P D vwCl (wM y a s160) H → va_S (AC a 30 s.heap.size) s.heap H locs → lv_has ls 12 [(0, .ref (a 0)), (1, .int v152), (2, .int v153), (3, .int v154), (4, .int v155), (5, .int v156), (8, .int v157), (9, .int v158), (10, .int v159)] → mX8_refusal_169 s160 v152 v153 v154 v155 v156 v157 v158 v159 = some (r, τ) → W p l e (headSpec zX8_refusal ({ frames := 258, cells := 0, slots := 0, locals := 5936 })).room s m ([.ref (a 0), .int p1, .int p2, .int p3, .int p4, .int p5] : List Value).toArray below meth c H locs 0 0 (MQ below (va_Qi (fun r' u => r' = r ∧ u = τ) (posW (wM y a) D) (AC a 30 s.heap.size)) ([.ref (a 0), .int p1, .int p2, .int p3, .int p4, .int p5] : List Value).toArray s 0 0 (AC a 30 s.heap.size)) (F0 m 169 ls []) := by
    intro s160 v152 v153 v154 v155 v156 v157 v158 v159 H locs ls hP hS hl hm
    unfold mX8_refusal_169 at hm
    refine lv_iload hx hb dX8_refusal_169 (lv_at hl 7 rfl) ?_
    refine lv_iconst (v := 3) hx hb dX8_refusal_171 (by decide) ?_
    refine lv_icmp_ne (tgt := 179) hx hb dX8_refusal_172 (by decide) (fun c161 => ?_) (fun c161 => ?_)
    · have hm := (if_neg c161).symm.trans hm
      refine lv_iconst (v := 0) hx hb dX8_refusal_179 (by decide) ?_
      exact L_180 s160 v152 v153 v154 v155 v156 v157 v158 v159 0 _ _ _ hP hS (lv_sub hl [0, 1, 2, 3, 4, 5, 6, 7, 8] rfl) hm
    · have hm := (if_pos c161).symm.trans hm
      refine lv_iconst (v := 1) hx hb dX8_refusal_175 (by decide) ?_
      refine lv_goto (tgt := 180) hx hb dX8_refusal_176 (by decide) ?_
      exact L_180 s160 v152 v153 v154 v155 v156 v157 v158 v159 1 _ _ _ hP hS (lv_sub hl [0, 1, 2, 3, 4, 5, 6, 7, 8] rfl) hm
  have L_154 : ∀ (s170 : St) (v162 : Int32) (v163 : Int32) (v164 : Int32) (v165 : Int32) (v166 : Int32) (v167 : Int32) (v168 : Int32) (v169 : Int32) (H : Heap) (locs : List Loc) (ls : Array Slot), va_P D vwCl (wM y a s170) H → va_S (AC a 30 s.heap.size) s.heap H locs → lv_has ls 12 [(0, .ref (a 0)), (1, .int v162), (2, .int v163), (3, .int v164), (4, .int v165), (5, .int v166), (8, .int v167), (9, .int v168)] → mX8_refusal_154 s170 v162 v163 v164 v165 v166 v167 v168 v169 = some (r, τ) → W p l e (headSpec zX8_refusal ({ frames := 258, cells := 0, slots := 0, locals := 5936 })).room s m ([.ref (a 0), .int p1, .int p2, .int p3, .int p4, .int p5] : List Value).toArray below meth c H locs 0 0 (MQ below (va_Qi (fun r' u => r' = r ∧ u = τ) (posW (wM y a) D) (AC a 30 s.heap.size)) ([.ref (a 0), .int p1, .int p2, .int p3, .int p4, .int p5] : List Value).toArray s 0 0 (AC a 30 s.heap.size)) (F0 m 154 ls [.int v169]) := by
    intro s170 v162 v163 v164 v165 v166 v167 v168 v169 H locs ls hP hS hl hm
    unfold mX8_refusal_154 at hm
    refine lv_istore (lv' := [(10, .int v169), (0, .ref (a 0)), (1, .int v162), (2, .int v163), (3, .int v164), (4, .int v165), (5, .int v166), (8, .int v167), (9, .int v168)]) hx hb dX8_refusal_154 hl (by decide) rfl (fun ls hl => ?_)
    refine lv_iconst (v := 1) hx hb dX8_refusal_156 (by decide) ?_
    refine lv_istore (lv' := [(11, .int 1), (10, .int v169), (0, .ref (a 0)), (1, .int v162), (2, .int v163), (3, .int v164), (4, .int v165), (5, .int v166), (8, .int v167), (9, .int v168)]) hx hb dX8_refusal_157 hl (by decide) rfl (fun ls hl => ?_)
    refine lv_iload_n hx hb dX8_refusal_159 rfl (lv_at hl 3 rfl) ?_
    refine lv_iconst (v := 2) hx hb dX8_refusal_160 (by decide) ?_
    refine lv_icmp_eq (tgt := 169) hx hb dX8_refusal_161 (by decide) (fun c171 => ?_) (fun c171 => ?_)
    · have hm := (if_pos c171).symm.trans hm
      exact L_169 s170 v162 v163 v164 v165 v166 v167 v168 v169 _ _ _ hP hS (lv_sub hl [2, 3, 4, 5, 6, 7, 8, 9, 1] rfl) hm
    · have hm := (if_neg c171).symm.trans hm
      refine lv_iload_n hx hb dX8_refusal_164 rfl (lv_at hl 3 rfl) ?_
      refine lv_iconst (v := 3) hx hb dX8_refusal_165 (by decide) ?_
      refine lv_icmp_ne (tgt := 182) hx hb dX8_refusal_166 (by decide) (fun c172 => ?_) (fun c172 => ?_)
      · have hm := (if_neg c172).symm.trans hm
        exact L_182 s170 v162 v163 v164 v165 v166 v167 v168 v169 1 _ _ _ hP hS (lv_sub hl [2, 3, 4, 5, 6, 7, 8, 9, 1, 0] rfl) hm
      · have hm := (if_pos c172).symm.trans hm
        exact L_169 s170 v162 v163 v164 v165 v166 v167 v168 v169 _ _ _ hP hS (lv_sub hl [2, 3, 4, 5, 6, 7, 8, 9, 1] rfl) hm
  have L_120 : ∀ (s180 : St) (v173 : Int32) (v174 : Int32) (v175 : Int32) (v176 : Int32) (v177 : Int32) (v178 : Int32) (v179 : Int32) (H : Heap) (locs : List Loc) (ls : Array Slot), va_P D vwCl (wM y a s180) H → va_S (AC a 30 s.heap.size) s.heap H locs → lv_has ls 12 [(0, .ref (a 0)), (1, .int v173), (2, .int v174), (3, .int v175), (4, .int v176), (5, .int v177), (6, .int v178)] → mX8_refusal_120 s180 v173 v174 v175 v176 v177 v178 v179 = some (r, τ) → W p l e (headSpec zX8_refusal ({ frames := 258, cells := 0, slots := 0, locals := 5936 })).room s m ([.ref (a 0), .int p1, .int p2, .int p3, .int p4, .int p5] : List Value).toArray below meth c H locs 0 0 (MQ below (va_Qi (fun r' u => r' = r ∧ u = τ) (posW (wM y a) D) (AC a 30 s.heap.size)) ([.ref (a 0), .int p1, .int p2, .int p3, .int p4, .int p5] : List Value).toArray s 0 0 (AC a 30 s.heap.size)) (F0 m 120 ls [.int v179]) := by
    intro s180 v173 v174 v175 v176 v177 v178 v179 H locs ls hP hS hl hm
    unfold mX8_refusal_120 at hm
    refine lv_istore (lv' := [(8, .int v179), (0, .ref (a 0)), (1, .int v173), (2, .int v174), (3, .int v175), (4, .int v176), (5, .int v177), (6, .int v178)]) hx hb dX8_refusal_120 hl (by decide) rfl (fun ls hl => ?_)
    refine lv_aload_n hx hb dX8_refusal_122 rfl (lv_at hl 1 rfl) ?_
    refine gfX8_sorts hx hb h_X8 hown hK hP l_f20 dX8_refusal_123 ?_
    refine lv_iload hx hb dX8_refusal_126 (lv_at hl 0 rfl) ?_
    obtain ⟨hi, hm⟩ := ok_I hm
    refine ldM_3 hx hb hK hP hi dX8_refusal_128 ?_
    refine lv_topi (fun x181 ex181 => ?_)
    have hm := bnd_x ex181 hm
    refine lv_istore (lv' := [(9, .int x181), (8, .int v179), (0, .ref (a 0)), (1, .int v173), (2, .int v174), (3, .int v175), (4, .int v176), (5, .int v177), (6, .int v178)]) hx hb dX8_refusal_129 hl (by decide) rfl (fun ls hl => ?_)
    refine lv_iload hx hb dX8_refusal_131 (lv_at hl 8 rfl) ?_
    refine lv_bipush (v := 10) hx hb dX8_refusal_133 (by decide) ?_
    refine lv_idiv hx hb dX8_refusal_135 (by decide) ?_
    refine lv_bipush (v := 10) hx hb dX8_refusal_136 (by decide) ?_
    refine lv_irem hx hb dX8_refusal_138 (by decide) ?_
    refine lv_iconst (v := 1) hx hb dX8_refusal_139 (by decide) ?_
    refine lv_icmp_ne (tgt := 153) hx hb dX8_refusal_140 (by decide) (fun c182 => ?_) (fun c182 => ?_)
    · have hm := (if_neg c182).symm.trans hm
      refine lv_iconst (v := (-1)) hx hb dX8_refusal_153 (by decide) ?_
      exact L_154 s180 v173 v174 v175 v176 v177 v179 x181 (-1) _ _ _ hP hS (lv_sub hl [2, 3, 4, 5, 6, 7, 1, 0] rfl) hm
    · have hm := (if_pos c182).symm.trans hm
      refine lv_aload_n hx hb dX8_refusal_143 rfl (lv_at hl 2 rfl) ?_
      refine gfX8_shown hx hb h_X8 hown hK hP l_f40 dX8_refusal_144 ?_
      refine lv_iload hx hb dX8_refusal_147 (lv_at hl 6 rfl) ?_
      obtain ⟨hi, hm⟩ := ok_I hm
      refine ldM_9 hx hb hK hP hi dX8_refusal_149 ?_
      refine lv_goto (tgt := 154) hx hb dX8_refusal_150 (by decide) ?_
      exact L_154 s180 v173 v174 v175 v176 v177 v179 x181 (s180.1 21 v176.toNatClampNeg) _ _ _ hP hS (lv_sub hl [2, 3, 4, 5, 6, 7, 1, 0] rfl) hm
  have L_93 : ∀ (s190 : St) (v183 : Int32) (v184 : Int32) (v185 : Int32) (v186 : Int32) (v187 : Int32) (v188 : Int32) (v189 : Int32) (H : Heap) (locs : List Loc) (ls : Array Slot), va_P D vwCl (wM y a s190) H → va_S (AC a 30 s.heap.size) s.heap H locs → lv_has ls 12 [(0, .ref (a 0)), (1, .int v183), (2, .int v184), (3, .int v185), (4, .int v186), (5, .int v187), (6, .int v188)] → mX8_refusal_93 s190 v183 v184 v185 v186 v187 v188 v189 = some (r, τ) → W p l e (headSpec zX8_refusal ({ frames := 258, cells := 0, slots := 0, locals := 5936 })).room s m ([.ref (a 0), .int p1, .int p2, .int p3, .int p4, .int p5] : List Value).toArray below meth c H locs 0 0 (MQ below (va_Qi (fun r' u => r' = r ∧ u = τ) (posW (wM y a) D) (AC a 30 s.heap.size)) ([.ref (a 0), .int p1, .int p2, .int p3, .int p4, .int p5] : List Value).toArray s 0 0 (AC a 30 s.heap.size)) (F0 m 93 ls [.int v189]) := by
    intro s190 v183 v184 v185 v186 v187 v188 v189 H locs ls hP hS hl hm
    unfold mX8_refusal_93 at hm
    refine lv_istore (lv' := [(7, .int v189), (0, .ref (a 0)), (1, .int v183), (2, .int v184), (3, .int v185), (4, .int v186), (5, .int v187), (6, .int v188)]) hx hb dX8_refusal_93 hl (by decide) rfl (fun ls hl => ?_)
    refine lv_iload hx hb dX8_refusal_95 (lv_at hl 0 rfl) ?_
    refine lv_if_eq (tgt := 114) hx hb dX8_refusal_97 (by decide) (fun c191 => ?_) (fun c191 => ?_)
    · have hm := (if_pos c191).symm.trans hm
      refine lv_aload_n hx hb dX8_refusal_114 rfl (lv_at hl 1 rfl) ?_
      refine gfX8_shown hx hb h_X8 hown hK hP l_f40 dX8_refusal_115 ?_
      refine lv_iload_n hx hb dX8_refusal_118 rfl (lv_at hl 4 rfl) ?_
      obtain ⟨hi, hm⟩ := ok_I hm
      refine ldM_9 hx hb hK hP hi dX8_refusal_119 ?_
      exact L_120 s190 v183 v184 v185 v186 v187 v188 (s190.1 21 v185.toNatClampNeg) _ _ _ hP hS (lv_sub hl [1, 2, 3, 4, 5, 6, 7] rfl) hm
    · have hm := (if_neg c191).symm.trans hm
      refine lv_aload_n hx hb dX8_refusal_100 rfl (lv_at hl 1 rfl) ?_
      refine gfX8_shown hx hb h_X8 hown hK hP l_f40 dX8_refusal_101 ?_
      refine lv_aload_n hx hb dX8_refusal_104 rfl (lv_at hl 1 rfl) ?_
      refine gfX8_ends hx hb h_X8 hown hK hP l_f55 dX8_refusal_105 ?_
      refine lv_iload_n hx hb dX8_refusal_108 rfl (lv_at hl 4 rfl) ?_
      obtain ⟨hi, hm⟩ := ok_I hm
      refine ldM_14 hx hb hK hP hi dX8_refusal_109 ?_
      obtain ⟨hi, hm⟩ := ok_I hm
      refine ldM_9 hx hb hK hP hi dX8_refusal_110 ?_
      refine lv_goto (tgt := 120) hx hb dX8_refusal_111 (by decide) ?_
      exact L_120 s190 v183 v184 v185 v186 v187 v188 (s190.1 21 (s190.1 26 v185.toNatClampNeg).toNatClampNeg) _ _ _ hP hS (lv_sub hl [1, 2, 3, 4, 5, 6, 7] rfl) hm
  unfold mX8_refusal at hm
  refine lv_aload_n hx hb dX8_refusal_0 rfl (lv_at hl 0 rfl) ?_
  refine lv_iload_n hx hb dX8_refusal_1 rfl (lv_at hl 1 rfl) ?_
  refine lv_iload_n hx hb dX8_refusal_2 rfl (lv_at hl 3 rfl) ?_
  obtain ⟨r192, h193, hm⟩ := ok_bind hm
  refine calV_i (As := [.int p1, .int p3]) (rest := []) ⟨hx, hb, hml, hown, hts⟩ (kX8_needs l D y a t hI _ σ p1 p3 r192 h193) (cwV 2 hts (gAV aM_X8_239 aI_X8_needs aS_X8_needs aN_X8 aC_X8_needs) rfl rfl rfl eX8_needs ⟨Nat.le_of_ble_eq_true rfl, Nat.le_of_ble_eq_true rfl⟩) (preV_W (ci := 8) (q := (RX8, TX8, 42)) hK hP hF hS rfl (wM_0 y a σ)) rfl hl.1 rfl (Nat.le_of_ble_eq_true rfl) dX8_refusal_3 ⟨Nat.zero_le _, Nat.zero_le _⟩ hS (AC_le hS.1) (fun H locs hP hS hk1 => ?_)
  refine lv_istore (lv' := [(6, .int r192), (0, .ref (a 0)), (1, .int p1), (2, .int p2), (3, .int p3), (4, .int p4), (5, .int p5)]) hx hb dX8_refusal_6 hl (by decide) rfl (fun ls hl => ?_)
  refine lv_aload_n hx hb dX8_refusal_8 rfl (lv_at hl 1 rfl) ?_
  refine lv_iload hx hb dX8_refusal_9 (lv_at hl 0 rfl) ?_
  refine lv_bipush (v := 100) hx hb dX8_refusal_11 (by decide) ?_
  refine lv_idiv hx hb dX8_refusal_13 (by decide) ?_
  refine lv_iload_n hx hb dX8_refusal_14 rfl (lv_at hl 4 rfl) ?_
  obtain ⟨r194, h195, hm⟩ := ok_bind hm
  refine calV_i (As := [.int (r192 / 100), .int p3]) (rest := []) ⟨hx, hb, hml, hown, hts⟩ (kX8_isReference l D y a t hI _ σ (r192 / 100) p3 r194 h195) (cwV 2 hts (gAV aM_X8_242 aI_X8_isReference aS_X8_isReference aN_X8 aC_X8_isReference) rfl rfl rfl eX8_isReference ⟨Nat.le_of_ble_eq_true rfl, Nat.le_of_ble_eq_true rfl⟩) (preV_W (ci := 8) (q := (RX8, TX8, 42)) hK hP hF hS rfl (wM_0 y a σ)) rfl hl.1 rfl (Nat.le_of_ble_eq_true rfl) dX8_refusal_15 ⟨Nat.zero_le _, Nat.zero_le _⟩ hS (AC_le hS.1) (fun H locs hP hS hk1 => ?_)
  refine lv_if_eq (tgt := 52) hx hb dX8_refusal_18 (by decide) (fun c196 => ?_) (fun c196 => ?_)
  · have hm := (if_pos c196).symm.trans hm
    refine lv_iconst (v := 1) hx hb dX8_refusal_52 (by decide) ?_
    exact W.iret (v := 1) hx hb hr (fun T hT hW => ⟨⟨1, σ, rfl, ⟨congrArg Prod.fst (Option.some.inj hm), congrArg Prod.snd (Option.some.inj hm)⟩, by rw [posW, hT]; exact hP⟩, hS.F hT⟩) hS.2.2 dX8_refusal_53
  · have hm := (if_neg c196).symm.trans hm
    refine lv_aload_n hx hb dX8_refusal_21 rfl (lv_at hl 1 rfl) ?_
    refine lv_iload hx hb dX8_refusal_22 (lv_at hl 0 rfl) ?_
    refine lv_bipush (v := 10) hx hb dX8_refusal_24 (by decide) ?_
    refine lv_idiv hx hb dX8_refusal_26 (by decide) ?_
    refine lv_bipush (v := 10) hx hb dX8_refusal_27 (by decide) ?_
    refine lv_irem hx hb dX8_refusal_29 (by decide) ?_
    refine lv_iload hx hb dX8_refusal_30 (lv_at hl 5 rfl) ?_
    obtain ⟨r197, h198, hm⟩ := ok_bind hm
    refine calV_i (As := [.int ((r192 / 10) - (r192 / 10) / 10 * 10), .int p4]) (rest := []) ⟨hx, hb, hml, hown, hts⟩ (kX8_isReference l D y a t hI _ σ ((r192 / 10) - (r192 / 10) / 10 * 10) p4 r197 h198) (cwV 2 hts (gAV aM_X8_242 aI_X8_isReference aS_X8_isReference aN_X8 aC_X8_isReference) rfl rfl rfl eX8_isReference ⟨Nat.le_of_ble_eq_true rfl, Nat.le_of_ble_eq_true rfl⟩) (preV_W (ci := 8) (q := (RX8, TX8, 42)) hK hP hF hS rfl (wM_0 y a σ)) rfl hl.1 rfl (Nat.le_of_ble_eq_true rfl) dX8_refusal_32 ⟨Nat.zero_le _, Nat.zero_le _⟩ hS (AC_le hS.1) (fun H locs hP hS hk1 => ?_)
    refine lv_if_eq (tgt := 52) hx hb dX8_refusal_35 (by decide) (fun c199 => ?_) (fun c199 => ?_)
    · have hm := (if_pos c199).symm.trans hm
      refine lv_iconst (v := 1) hx hb dX8_refusal_52 (by decide) ?_
      exact W.iret (v := 1) hx hb hr (fun T hT hW => ⟨⟨1, σ, rfl, ⟨congrArg Prod.fst (Option.some.inj hm), congrArg Prod.snd (Option.some.inj hm)⟩, by rw [posW, hT]; exact hP⟩, hS.F hT⟩) hS.2.2 dX8_refusal_53
    · have hm := (if_neg c199).symm.trans hm
      refine lv_aload_n hx hb dX8_refusal_38 rfl (lv_at hl 1 rfl) ?_
      refine lv_iload hx hb dX8_refusal_39 (lv_at hl 0 rfl) ?_
      refine lv_bipush (v := 10) hx hb dX8_refusal_41 (by decide) ?_
      refine lv_irem hx hb dX8_refusal_43 (by decide) ?_
      refine lv_iload hx hb dX8_refusal_44 (lv_at hl 6 rfl) ?_
      obtain ⟨r200, h201, hm⟩ := ok_bind hm
      refine calV_i (As := [.int (r192 - r192 / 10 * 10), .int p5]) (rest := []) ⟨hx, hb, hml, hown, hts⟩ (kX8_isReference l D y a t hI _ σ (r192 - r192 / 10 * 10) p5 r200 h201) (cwV 2 hts (gAV aM_X8_242 aI_X8_isReference aS_X8_isReference aN_X8 aC_X8_isReference) rfl rfl rfl eX8_isReference ⟨Nat.le_of_ble_eq_true rfl, Nat.le_of_ble_eq_true rfl⟩) (preV_W (ci := 8) (q := (RX8, TX8, 42)) hK hP hF hS rfl (wM_0 y a σ)) rfl hl.1 rfl (Nat.le_of_ble_eq_true rfl) dX8_refusal_46 ⟨Nat.zero_le _, Nat.zero_le _⟩ hS (AC_le hS.1) (fun H locs hP hS hk1 => ?_)
      refine lv_if_ne (tgt := 54) hx hb dX8_refusal_49 (by decide) (fun c202 => ?_) (fun c202 => ?_)
      · have hm := (if_neg c202).symm.trans hm
        refine lv_iload_n hx hb dX8_refusal_54 rfl (lv_at hl 2 rfl) ?_
        refine lv_bipush (v := 13) hx hb dX8_refusal_55 (by decide) ?_
        refine lv_icmp_ne (tgt := 79) hx hb dX8_refusal_57 (by decide) (fun c203 => ?_) (fun c203 => ?_)
        · have hm := (if_neg c203).symm.trans hm
          refine lv_iload hx hb dX8_refusal_79 (lv_at hl 0 rfl) ?_
          refine lv_bipush (v := 100) hx hb dX8_refusal_81 (by decide) ?_
          refine lv_idiv hx hb dX8_refusal_83 (by decide) ?_
          refine lv_iconst (v := 2) hx hb dX8_refusal_84 (by decide) ?_
          refine lv_icmp_ne (tgt := 92) hx hb dX8_refusal_85 (by decide) (fun c204 => ?_) (fun c204 => ?_)
          · have hm := (if_neg c204).symm.trans hm
            refine lv_iconst (v := 0) hx hb dX8_refusal_92 (by decide) ?_
            exact L_93 σ p1 p2 p3 p4 p5 r192 0 _ _ _ hP hS (lv_sub hl [1, 2, 3, 4, 5, 6, 0] rfl) hm
          · have hm := (if_pos c204).symm.trans hm
            refine lv_iconst (v := 1) hx hb dX8_refusal_88 (by decide) ?_
            refine lv_goto (tgt := 93) hx hb dX8_refusal_89 (by decide) ?_
            exact L_93 σ p1 p2 p3 p4 p5 r192 1 _ _ _ hP hS (lv_sub hl [1, 2, 3, 4, 5, 6, 0] rfl) hm
        · have hm := (if_pos c203).symm.trans hm
          refine lv_aload_n hx hb dX8_refusal_60 rfl (lv_at hl 1 rfl) ?_
          refine lv_iload_n hx hb dX8_refusal_61 rfl (lv_at hl 3 rfl) ?_
          refine lv_iload_n hx hb dX8_refusal_62 rfl (lv_at hl 4 rfl) ?_
          refine lv_iload hx hb dX8_refusal_63 (lv_at hl 5 rfl) ?_
          refine lv_iload hx hb dX8_refusal_65 (lv_at hl 6 rfl) ?_
          obtain ⟨⟨r205, s207⟩, h206, hm⟩ := ok_bind hm
          refine calV_i (As := [.int p2, .int p3, .int p4, .int p5]) (rest := []) ⟨hx, hb, hml, hown, hts⟩ (kX8_theoremGives l D y a t hI _ σ s207 p2 p3 p4 p5 r205 h206) (cwV 4 hts (gAV aM_X8_245 aI_X8_theoremGives aS_X8_theoremGives aN_X8 aC_X8_theoremGives) rfl rfl rfl eX8_theoremGives ⟨Nat.le_of_ble_eq_true rfl, Nat.le_of_ble_eq_true rfl⟩) (preV_W (ci := 8) (q := (RX8, TX8, 42)) hK hP hF hS rfl (wM_0 y a σ)) rfl hl.1 rfl (Nat.le_of_ble_eq_true rfl) dX8_refusal_67 ⟨Nat.zero_le _, Nat.zero_le _⟩ hS (AC_le hS.1) (fun H locs hP hS hk1 => ?_)
          refine lv_if_eq (tgt := 77) hx hb dX8_refusal_70 (by decide) (fun c208 => ?_) (fun c208 => ?_)
          · have hm := (if_pos c208).symm.trans hm
            refine lv_iconst (v := 3) hx hb dX8_refusal_77 (by decide) ?_
            exact W.iret (v := 3) hx hb hr (fun T hT hW => ⟨⟨3, s207, rfl, ⟨congrArg Prod.fst (Option.some.inj hm), congrArg Prod.snd (Option.some.inj hm)⟩, by rw [posW, hT]; exact hP⟩, hS.F hT⟩) hS.2.2 dX8_refusal_78
          · have hm := (if_neg c208).symm.trans hm
            refine lv_iconst (v := 0) hx hb dX8_refusal_73 (by decide) ?_
            refine lv_goto (tgt := 78) hx hb dX8_refusal_74 (by decide) ?_
            exact W.iret (v := 0) hx hb hr (fun T hT hW => ⟨⟨0, s207, rfl, ⟨congrArg Prod.fst (Option.some.inj hm), congrArg Prod.snd (Option.some.inj hm)⟩, by rw [posW, hT]; exact hP⟩, hS.F hT⟩) hS.2.2 dX8_refusal_78
      · have hm := (if_pos c202).symm.trans hm
        refine lv_iconst (v := 1) hx hb dX8_refusal_52 (by decide) ?_
        exact W.iret (v := 1) hx hb hr (fun T hT hW => ⟨⟨1, σ, rfl, ⟨congrArg Prod.fst (Option.some.inj hm), congrArg Prod.snd (Option.some.inj hm)⟩, by rw [posW, hT]; exact hP⟩, hS.F hT⟩) hS.2.2 dX8_refusal_53
theorem eX8_step : yX8_step.cls = RX8 ∧ yX8_step.cls ≠ "java/lang/invoke/MethodHandle" ∧ yX8_step.cls ≠ "java/lang/invoke/VarHandle" ∧ (parseMethodDescriptor yX8_step.desc).map (fun d => d.parameters.length) = some 5 := by decide +kernel
def mX8_step_114 (s8 : St) (v1 : Int32) (v2 : Int32) (v3 : Int32) (v4 : Int32) (v5 : Int32) (v6 : Int32) (v7 : Int32) : Option (Int32 × St) :=
(mX8_add s8 v7 v6 v5 v4 v3).bind fun ⟨r9, s11⟩ =>
if v1 = 13 then (
chkI v2 16 (
chkI v2 16 (
bnd (su s11 34 (upd (s11.1 34) v2.toNatClampNeg ((s11.1 34 v2.toNatClampNeg) + 1))) fun s13 =>
some (0, s13))))
else (
some (0, s11))
def mX8_step_100 (s22 : St) (v14 : Int32) (v15 : Int32) (v16 : Int32) (v17 : Int32) (v18 : Int32) (v19 : Int32) (v20 : Int32) (v21 : Int32) : Option (Int32 × St) :=
if (v17 - v17 / 10 * 10) = 0 then (
mX8_step_114 s22 v14 v15 0 v18 v19 v20 v21)
else (
mX8_step_114 s22 v14 v15 v16 v18 v19 v20 v21)
def mX8_step (σ : St) (p1 : Int32) (p2 : Int32) (p3 : Int32) (p4 : Int32) (p5 : Int32) : Option (Int32 × St) :=
bnd (su σ 0 (fun _ => 0)) fun s24 =>
(mX8_isIn s24 p1 0 13).bind fun r25 =>
if r25 = 0 then (
(mX8_no s24 1).bind fun ⟨r45, s47⟩ =>
some (r45, s47))
else (
(mX8_isFormula s24 p2).bind fun r28 =>
if r28 = 0 then (
(mX8_no s24 2).bind fun ⟨r42, s44⟩ =>
some (r42, s44))
else (
if (s24.1 6 0) = 60 then (
(mX8_no s24 3).bind fun ⟨r39, s41⟩ =>
some (r39, s41))
else (
(mX8_refusal s24 p1 p2 p3 p4 p5).bind fun ⟨r32, s34⟩ =>
if r32 = 0 then (
(mX8_needs s34 p1 p3).bind fun r36 =>
if ((r36 / 10) - (r36 / 10) / 10 * 10) = 0 then (
mX8_step_100 s34 p1 p3 p5 r36 0 p3 p1 p2)
else (
mX8_step_100 s34 p1 p3 p5 r36 p4 p3 p1 p2))
else (
some (r32, s34)))))
set_option maxHeartbeats 4000000 in
set_option maxRecDepth 100000 in
theorem kX8_step (l : Launch) (D : va_G) (y : Nat → ClassId) (a t : Nat → Nat) (hI : AI a 30) (sz : Nat) (σ τ : St) (p1 : Int32) (p2 : Int32) (p3 : Int32) (p4 : Int32) (p5 : Int32) (r : Int32) (hm : mX8_step σ p1 p2 p3 p4 p5 = some (r, τ)) : Met l yX8_step zX8_step { frames := 259, cells := 0, slots := 0, locals := 5967 } (va_Pc [.ref (a 0), .int p1, .int p2, .int p3, .int p4, .int p5] (preW (wM y a) a 30 D y t σ sz)) (va_Qi (fun r' u => r' = r ∧ u = τ) (posW (wM y a) D) (AC a 30 sz)) 0 0 (AC a 30 sz) := by
  refine Met.ofW (cc := cX8_step) (maxL := 8) (ret := (some .int)) (by decide) rfl ?_
  intro p e s m args below meth c s₁ B hml hv
  obtain ⟨rfl, hsz, hP, hK, hF⟩ := hv
  have hx := B.exec
  have hb := B.bytes
  have hr := B.returns
  have hts := atoms_spec (ws := zX8_step) B.pre
  have hown : s.vm.findClass RX8 = some m.cls := findClass_of_methodNamed B.named
  have hlocks := B.notSynchronized
  subst hsz
  have l_f106 := hts _ (List.mem_cons_of_mem _ aF_X8_106)
  have l_f199 := hts _ (List.mem_cons_of_mem _ aF_X8_199)
  have l_f82 := hts _ (List.mem_cons_of_mem _ aF_X8_82)
  have h_X8 : ∀ w ∈ wsX80, w.before _ s = true := fun w hw => hts w (List.mem_cons_of_mem _ (hwX8 w hw))
  have hS : va_S (AC a 30 s.heap.size) s.heap s.heap [] := va_S.rf
  have hl := lv_entry ([.ref (a 0), .int p1, .int p2, .int p3, .int p4, .int p5]) (n := 8) (Nat.le_of_ble_eq_true rfl)
  rw [lg_entry_eq]
  generalize (lg_sl ([.ref (a 0), .int p1, .int p2, .int p3, .int p4, .int p5]) ++ List.replicate (8 - (lg_sl ([.ref (a 0), .int p1, .int p2, .int p3, .int p4, .int p5])).length) Slot.unset).toArray = ls at hl ⊢
  have hl : lv_has ls 8 [(0, .ref (a 0)), (1, .int p1), (2, .int p2), (3, .int p3), (4, .int p4), (5, .int p5)] := hl
  have L_114 : ∀ (s8 : St) (v1 : Int32) (v2 : Int32) (v3 : Int32) (v4 : Int32) (v5 : Int32) (v6 : Int32) (v7 : Int32) (H : Heap) (locs : List Loc) (ls : Array Slot), va_P D vwCl (wM y a s8) H → va_S (AC a 30 s.heap.size) s.heap H locs → lv_has ls 8 [(0, .ref (a 0)), (1, .int v1), (3, .int v2)] → mX8_step_114 s8 v1 v2 v3 v4 v5 v6 v7 = some (r, τ) → W p l e (headSpec zX8_step ({ frames := 259, cells := 0, slots := 0, locals := 5967 })).room s m ([.ref (a 0), .int p1, .int p2, .int p3, .int p4, .int p5] : List Value).toArray below meth c H locs 0 0 (MQ below (va_Qi (fun r' u => r' = r ∧ u = τ) (posW (wM y a) D) (AC a 30 s.heap.size)) ([.ref (a 0), .int p1, .int p2, .int p3, .int p4, .int p5] : List Value).toArray s 0 0 (AC a 30 s.heap.size)) (F0 m 114 ls [.int v3, .int v4, .int v5, .int v6, .int v7, .ref (a 0)]) := by
    intro s8 v1 v2 v3 v4 v5 v6 v7 H locs ls hP hS hl hm
    unfold mX8_step_114 at hm
    obtain ⟨⟨r9, s11⟩, h10, hm⟩ := ok_bind hm
    refine calV_i (As := [.int v7, .int v6, .int v5, .int v4, .int v3]) (rest := []) ⟨hx, hb, hml, hown, hts⟩ (kX8_add l D y a t hI _ s8 s11 v7 v6 v5 v4 v3 r9 h10) (cwV 5 hts (gAV aM_X8_214 aI_X8_add aS_X8_add aN_X8 aC_X8_add) rfl rfl rfl eX8_add ⟨Nat.le_of_ble_eq_true rfl, Nat.le_of_ble_eq_true rfl⟩) (preV_W (ci := 8) (q := (RX8, TX8, 42)) hK hP hF hS rfl (wM_0 y a s8)) rfl hl.1 rfl (Nat.le_of_ble_eq_true rfl) dX8_step_114 ⟨Nat.zero_le _, Nat.zero_le _⟩ hS (AC_le hS.1) (fun H locs hP hS hk1 => ?_)
    refine lv_pop hx hb dX8_step_117 rfl ?_
    refine lv_iload_n hx hb dX8_step_118 rfl (lv_at hl 1 rfl) ?_
    refine lv_bipush (v := 13) hx hb dX8_step_119 (by decide) ?_
    refine lv_icmp_ne (tgt := 134) hx hb dX8_step_121 (by decide) (fun c12 => ?_) (fun c12 => ?_)
    · have hm := (if_neg c12).symm.trans hm
      refine lv_iconst (v := 0) hx hb dX8_step_134 (by decide) ?_
      exact W.iret (v := 0) hx hb hr (fun T hT hW => ⟨⟨0, s11, rfl, ⟨congrArg Prod.fst (Option.some.inj hm), congrArg Prod.snd (Option.some.inj hm)⟩, by rw [posW, hT]; exact hP⟩, hS.F hT⟩) hS.2.2 dX8_step_135
    · have hm := (if_pos c12).symm.trans hm
      refine lv_aload_n hx hb dX8_step_124 rfl (lv_at hl 0 rfl) ?_
      refine gfX8_uses hx hb h_X8 hown hK hP l_f82 dX8_step_125 ?_
      refine lv_iload_n hx hb dX8_step_128 rfl (lv_at hl 2 rfl) ?_
      refine lv_dup2_11 hx hb dX8_step_129 rfl rfl ?_
      obtain ⟨hi, hm⟩ := ok_I hm
      refine ldM_22 hx hb hK hP hi dX8_step_130 ?_
      refine lv_iconst (v := 1) hx hb dX8_step_131 (by decide) ?_
      refine lv_iadd hx hb dX8_step_132 ?_
      obtain ⟨hi, hm⟩ := ok_I hm
      refine stM_22 hx hb hK hP hI AC_in hS hi dX8_step_133 (fun H locs hP hS => ?_)
      generalize es13 : su s11 34 (upd (s11.1 34) v2.toNatClampNeg ((s11.1 34 v2.toNatClampNeg) + 1)) = s13 at hP
      have hm := bnd_x es13.symm hm
      refine lv_iconst (v := 0) hx hb dX8_step_134 (by decide) ?_
      exact W.iret (v := 0) hx hb hr (fun T hT hW => ⟨⟨0, s13, rfl, ⟨congrArg Prod.fst (Option.some.inj hm), congrArg Prod.snd (Option.some.inj hm)⟩, by rw [posW, hT]; exact hP⟩, hS.F hT⟩) hS.2.2 dX8_step_135
  have L_100 : ∀ (s22 : St) (v14 : Int32) (v15 : Int32) (v16 : Int32) (v17 : Int32) (v18 : Int32) (v19 : Int32) (v20 : Int32) (v21 : Int32) (H : Heap) (locs : List Loc) (ls : Array Slot), va_P D vwCl (wM y a s22) H → va_S (AC a 30 s.heap.size) s.heap H locs → lv_has ls 8 [(0, .ref (a 0)), (1, .int v14), (3, .int v15), (5, .int v16), (7, .int v17)] → mX8_step_100 s22 v14 v15 v16 v17 v18 v19 v20 v21 = some (r, τ) → W p l e (headSpec zX8_step ({ frames := 259, cells := 0, slots := 0, locals := 5967 })).room s m ([.ref (a 0), .int p1, .int p2, .int p3, .int p4, .int p5] : List Value).toArray below meth c H locs 0 0 (MQ below (va_Qi (fun r' u => r' = r ∧ u = τ) (posW (wM y a) D) (AC a 30 s.heap.size)) ([.ref (a 0), .int p1, .int p2, .int p3, .int p4, .int p5] : List Value).toArray s 0 0 (AC a 30 s.heap.size)) (F0 m 100 ls [.int v18, .int v19, .int v20, .int v21, .ref (a 0)]) := by
    intro s22 v14 v15 v16 v17 v18 v19 v20 v21 H locs ls hP hS hl hm
    unfold mX8_step_100 at hm
    refine lv_iload hx hb dX8_step_100 (lv_at hl 4 rfl) ?_
    refine lv_bipush (v := 10) hx hb dX8_step_102 (by decide) ?_
    refine lv_irem hx hb dX8_step_104 (by decide) ?_
    refine lv_if_ne (tgt := 112) hx hb dX8_step_105 (by decide) (fun c23 => ?_) (fun c23 => ?_)
    · have hm := (if_neg c23).symm.trans hm
      refine lv_iload hx hb dX8_step_112 (lv_at hl 3 rfl) ?_
      exact L_114 s22 v14 v15 v16 v18 v19 v20 v21 _ _ _ hP hS (lv_sub hl [0, 1, 2] rfl) hm
    · have hm := (if_pos c23).symm.trans hm
      refine lv_iconst (v := 0) hx hb dX8_step_108 (by decide) ?_
      refine lv_goto (tgt := 114) hx hb dX8_step_109 (by decide) ?_
      exact L_114 s22 v14 v15 0 v18 v19 v20 v21 _ _ _ hP hS (lv_sub hl [0, 1, 2] rfl) hm
  unfold mX8_step at hm
  refine lv_aload_n hx hb dX8_step_0 rfl (lv_at hl 0 rfl) ?_
  refine lv_iconst (v := 0) hx hb dX8_step_1 (by decide) ?_
  refine pfX8_thrown hx hb h_X8 hown hK hP hI AC_in hS l_f106 dX8_step_2 (fun H locs hP hS => ?_)
  generalize es24 : su σ 0 (fun _ => 0) = s24 at hP
  have hm := bnd_x es24.symm hm
  refine lv_iload_n hx hb dX8_step_5 rfl (lv_at hl 1 rfl) ?_
  refine lv_iconst (v := 0) hx hb dX8_step_6 (by decide) ?_
  refine lv_bipush (v := 13) hx hb dX8_step_7 (by decide) ?_
  obtain ⟨r25, h26, hm⟩ := ok_bind hm
  refine calS_i (As := [.int p1, .int 0, .int 13]) (rest := []) ⟨hx, hb, hml, hown, hts⟩ (kX8_isIn l D y a t hI _ s24 p1 0 13 r25 h26) (va_cwS 3 hts (gAS aM_X8_112 aT_X8_isIn aN_X8 aC_X8_isIn) rfl rfl rfl eX8_isIn ⟨Nat.le_of_ble_eq_true rfl, Nat.le_of_ble_eq_true rfl⟩) (preS_W hK hP hF hS) rfl hl.1 rfl (Nat.le_of_ble_eq_true rfl) dX8_step_9 ⟨Nat.zero_le _, Nat.zero_le _⟩ hS (AC_le hS.1) (fun H locs hP hS hk1 => ?_)
  refine lv_if_ne (tgt := 21) hx hb dX8_step_12 (by decide) (fun c27 => ?_) (fun c27 => ?_)
  · have hm := (if_neg c27).symm.trans hm
    refine lv_aload_n hx hb dX8_step_21 rfl (lv_at hl 0 rfl) ?_
    refine lv_iload_n hx hb dX8_step_22 rfl (lv_at hl 2 rfl) ?_
    obtain ⟨r28, h29, hm⟩ := ok_bind hm
    refine calV_i (As := [.int p2]) (rest := []) ⟨hx, hb, hml, hown, hts⟩ (kX8_isFormula l D y a t hI _ s24 p2 r28 h29) (cwV 1 hts (gAV aM_X8_171 aI_X8_isFormula aS_X8_isFormula aN_X8 aC_X8_isFormula) rfl rfl rfl eX8_isFormula ⟨Nat.le_of_ble_eq_true rfl, Nat.le_of_ble_eq_true rfl⟩) (preV_W (ci := 8) (q := (RX8, TX8, 42)) hK hP hF hS rfl (wM_0 y a s24)) rfl hl.1 rfl (Nat.le_of_ble_eq_true rfl) dX8_step_23 ⟨Nat.zero_le _, Nat.zero_le _⟩ hS (AC_le hS.1) (fun H locs hP hS hk1 => ?_)
    refine lv_if_ne (tgt := 35) hx hb dX8_step_26 (by decide) (fun c30 => ?_) (fun c30 => ?_)
    · have hm := (if_neg c30).symm.trans hm
      refine lv_aload_n hx hb dX8_step_35 rfl (lv_at hl 0 rfl) ?_
      refine gfX8_lines hx hb h_X8 hown hK hP l_f199 dX8_step_36 ?_
      refine lv_bipush (v := 60) hx hb dX8_step_39 (by decide) ?_
      refine lv_icmp_ne (tgt := 50) hx hb dX8_step_41 (by decide) (fun c31 => ?_) (fun c31 => ?_)
      · have hm := (if_neg c31).symm.trans hm
        refine lv_aload_n hx hb dX8_step_50 rfl (lv_at hl 0 rfl) ?_
        refine lv_iload_n hx hb dX8_step_51 rfl (lv_at hl 1 rfl) ?_
        refine lv_iload_n hx hb dX8_step_52 rfl (lv_at hl 2 rfl) ?_
        refine lv_iload_n hx hb dX8_step_53 rfl (lv_at hl 3 rfl) ?_
        refine lv_iload hx hb dX8_step_54 (lv_at hl 4 rfl) ?_
        refine lv_iload hx hb dX8_step_56 (lv_at hl 5 rfl) ?_
        obtain ⟨⟨r32, s34⟩, h33, hm⟩ := ok_bind hm
        refine calV_i (As := [.int p1, .int p2, .int p3, .int p4, .int p5]) (rest := []) ⟨hx, hb, hml, hown, hts⟩ (kX8_refusal l D y a t hI _ s24 s34 p1 p2 p3 p4 p5 r32 h33) (cwV 5 hts (gAV aM_X8_259 aI_X8_refusal aS_X8_refusal aN_X8 aC_X8_refusal) rfl rfl rfl eX8_refusal ⟨Nat.le_of_ble_eq_true rfl, Nat.le_of_ble_eq_true rfl⟩) (preV_W (ci := 8) (q := (RX8, TX8, 42)) hK hP hF hS rfl (wM_0 y a s24)) rfl hl.1 rfl (Nat.le_of_ble_eq_true rfl) dX8_step_58 ⟨Nat.zero_le _, Nat.zero_le _⟩ hS (AC_le hS.1) (fun H locs hP hS hk1 => ?_)
        refine lv_istore (lv' := [(6, .int r32), (0, .ref (a 0)), (1, .int p1), (2, .int p2), (3, .int p3), (4, .int p4), (5, .int p5)]) hx hb dX8_step_61 hl (by decide) rfl (fun ls hl => ?_)
        refine lv_iload hx hb dX8_step_63 (lv_at hl 0 rfl) ?_
        refine lv_if_eq (tgt := 71) hx hb dX8_step_65 (by decide) (fun c35 => ?_) (fun c35 => ?_)
        · have hm := (if_pos c35).symm.trans hm
          refine lv_aload_n hx hb dX8_step_71 rfl (lv_at hl 1 rfl) ?_
          refine lv_iload_n hx hb dX8_step_72 rfl (lv_at hl 2 rfl) ?_
          refine lv_iload_n hx hb dX8_step_73 rfl (lv_at hl 4 rfl) ?_
          obtain ⟨r36, h37, hm⟩ := ok_bind hm
          refine calV_i (As := [.int p1, .int p3]) (rest := []) ⟨hx, hb, hml, hown, hts⟩ (kX8_needs l D y a t hI _ s34 p1 p3 r36 h37) (cwV 2 hts (gAV aM_X8_239 aI_X8_needs aS_X8_needs aN_X8 aC_X8_needs) rfl rfl rfl eX8_needs ⟨Nat.le_of_ble_eq_true rfl, Nat.le_of_ble_eq_true rfl⟩) (preV_W (ci := 8) (q := (RX8, TX8, 42)) hK hP hF hS rfl (wM_0 y a s34)) rfl hl.1 rfl (Nat.le_of_ble_eq_true rfl) dX8_step_74 ⟨Nat.zero_le _, Nat.zero_le _⟩ hS (AC_le hS.1) (fun H locs hP hS hk1 => ?_)
          refine lv_istore (lv' := [(7, .int r36), (6, .int r32), (0, .ref (a 0)), (1, .int p1), (2, .int p2), (3, .int p3), (4, .int p4), (5, .int p5)]) hx hb dX8_step_77 hl (by decide) rfl (fun ls hl => ?_)
          refine lv_aload_n hx hb dX8_step_79 rfl (lv_at hl 2 rfl) ?_
          refine lv_iload_n hx hb dX8_step_80 rfl (lv_at hl 4 rfl) ?_
          refine lv_iload_n hx hb dX8_step_81 rfl (lv_at hl 3 rfl) ?_
          refine lv_iload_n hx hb dX8_step_82 rfl (lv_at hl 5 rfl) ?_
          refine lv_iload hx hb dX8_step_83 (lv_at hl 0 rfl) ?_
          refine lv_bipush (v := 10) hx hb dX8_step_85 (by decide) ?_
          refine lv_idiv hx hb dX8_step_87 (by decide) ?_
          refine lv_bipush (v := 10) hx hb dX8_step_88 (by decide) ?_
          refine lv_irem hx hb dX8_step_90 (by decide) ?_
          refine lv_if_ne (tgt := 98) hx hb dX8_step_91 (by decide) (fun c38 => ?_) (fun c38 => ?_)
          · have hm := (if_neg c38).symm.trans hm
            refine lv_iload hx hb dX8_step_98 (lv_at hl 6 rfl) ?_
            exact L_100 s34 p1 p3 p5 r36 p4 p3 p1 p2 _ _ _ hP hS (lv_sub hl [2, 3, 5, 7, 0] rfl) hm
          · have hm := (if_pos c38).symm.trans hm
            refine lv_iconst (v := 0) hx hb dX8_step_94 (by decide) ?_
            refine lv_goto (tgt := 100) hx hb dX8_step_95 (by decide) ?_
            exact L_100 s34 p1 p3 p5 r36 0 p3 p1 p2 _ _ _ hP hS (lv_sub hl [2, 3, 5, 7, 0] rfl) hm
        · have hm := (if_neg c35).symm.trans hm
          refine lv_iload hx hb dX8_step_68 (lv_at hl 0 rfl) ?_
          exact W.iret (v := r32) hx hb hr (fun T hT hW => ⟨⟨r32, s34, rfl, ⟨congrArg Prod.fst (Option.some.inj hm), congrArg Prod.snd (Option.some.inj hm)⟩, by rw [posW, hT]; exact hP⟩, hS.F hT⟩) hS.2.2 dX8_step_70
      · have hm := (if_pos c31).symm.trans hm
        refine lv_aload_n hx hb dX8_step_44 rfl (lv_at hl 0 rfl) ?_
        refine lv_iconst (v := 3) hx hb dX8_step_45 (by decide) ?_
        obtain ⟨⟨r39, s41⟩, h40, hm⟩ := ok_bind hm
        refine calV_i (As := [.int 3]) (rest := []) ⟨hx, hb, hml, hown, hts⟩ (kX8_no l D y a t hI _ s24 s41 3 r39 h40) (cwV 1 hts (gAV aM_X8_119 aI_X8_no aS_X8_no aN_X8 aC_X8_no) rfl rfl rfl eX8_no ⟨Nat.le_of_ble_eq_true rfl, Nat.le_of_ble_eq_true rfl⟩) (preV_W (ci := 8) (q := (RX8, TX8, 42)) hK hP hF hS rfl (wM_0 y a s24)) rfl hl.1 rfl (Nat.le_of_ble_eq_true rfl) dX8_step_46 ⟨Nat.zero_le _, Nat.zero_le _⟩ hS (AC_le hS.1) (fun H locs hP hS hk1 => ?_)
        exact W.iret (v := r39) hx hb hr (fun T hT hW => ⟨⟨r39, s41, rfl, ⟨congrArg Prod.fst (Option.some.inj hm), congrArg Prod.snd (Option.some.inj hm)⟩, by rw [posW, hT]; exact hP⟩, hS.F hT⟩) hS.2.2 dX8_step_49
    · have hm := (if_pos c30).symm.trans hm
      refine lv_aload_n hx hb dX8_step_29 rfl (lv_at hl 0 rfl) ?_
      refine lv_iconst (v := 2) hx hb dX8_step_30 (by decide) ?_
      obtain ⟨⟨r42, s44⟩, h43, hm⟩ := ok_bind hm
      refine calV_i (As := [.int 2]) (rest := []) ⟨hx, hb, hml, hown, hts⟩ (kX8_no l D y a t hI _ s24 s44 2 r42 h43) (cwV 1 hts (gAV aM_X8_119 aI_X8_no aS_X8_no aN_X8 aC_X8_no) rfl rfl rfl eX8_no ⟨Nat.le_of_ble_eq_true rfl, Nat.le_of_ble_eq_true rfl⟩) (preV_W (ci := 8) (q := (RX8, TX8, 42)) hK hP hF hS rfl (wM_0 y a s24)) rfl hl.1 rfl (Nat.le_of_ble_eq_true rfl) dX8_step_31 ⟨Nat.zero_le _, Nat.zero_le _⟩ hS (AC_le hS.1) (fun H locs hP hS hk1 => ?_)
      exact W.iret (v := r42) hx hb hr (fun T hT hW => ⟨⟨r42, s44, rfl, ⟨congrArg Prod.fst (Option.some.inj hm), congrArg Prod.snd (Option.some.inj hm)⟩, by rw [posW, hT]; exact hP⟩, hS.F hT⟩) hS.2.2 dX8_step_34
  · have hm := (if_pos c27).symm.trans hm
    refine lv_aload_n hx hb dX8_step_15 rfl (lv_at hl 0 rfl) ?_
    refine lv_iconst (v := 1) hx hb dX8_step_16 (by decide) ?_
    obtain ⟨⟨r45, s47⟩, h46, hm⟩ := ok_bind hm
    refine calV_i (As := [.int 1]) (rest := []) ⟨hx, hb, hml, hown, hts⟩ (kX8_no l D y a t hI _ s24 s47 1 r45 h46) (cwV 1 hts (gAV aM_X8_119 aI_X8_no aS_X8_no aN_X8 aC_X8_no) rfl rfl rfl eX8_no ⟨Nat.le_of_ble_eq_true rfl, Nat.le_of_ble_eq_true rfl⟩) (preV_W (ci := 8) (q := (RX8, TX8, 42)) hK hP hF hS rfl (wM_0 y a s24)) rfl hl.1 rfl (Nat.le_of_ble_eq_true rfl) dX8_step_17 ⟨Nat.zero_le _, Nat.zero_le _⟩ hS (AC_le hS.1) (fun H locs hP hS hk1 => ?_)
    exact W.iret (v := r45) hx hb hr (fun T hT hW => ⟨⟨r45, s47, rfl, ⟨congrArg Prod.fst (Option.some.inj hm), congrArg Prod.snd (Option.some.inj hm)⟩, by rw [posW, hT]; exact hP⟩, hS.F hT⟩) hS.2.2 dX8_step_20
theorem eX8_undo : yX8_undo.cls = RX8 ∧ yX8_undo.cls ≠ "java/lang/invoke/MethodHandle" ∧ yX8_undo.cls ≠ "java/lang/invoke/VarHandle" ∧ (parseMethodDescriptor yX8_undo.desc).map (fun d => d.parameters.length) = some 0 := by decide +kernel
def mX8_undo (σ : St) : Option (Int32 × St) :=
bnd (su σ 0 (fun _ => 0)) fun s1 =>
if (s1.1 9 0) = 0 then (
(mX8_no s1 1).bind fun ⟨r13, s15⟩ =>
some (r13, s15))
else (
bnd (su s1 9 (fun _ => (s1.1 9 0) - 1)) fun s3 =>
chkI (s3.1 9 0) 120 (
bnd (s3.1 28 (s3.1 9 0).toNatClampNeg) fun x4 =>
if 0 ≤ x4 then (
bnd (su s3 6 (fun _ => (s3.1 6 0) - 1)) fun s6 =>
chkI (s6.1 6 0) 60 (
if (s6.1 22 (s6.1 6 0).toNatClampNeg) = 14 then (
bnd (su s6 7 (fun _ => (s6.1 7 0) - 1)) fun s8 =>
chkI (s8.1 7 0) 60 (
bnd (su s8 8 (fun _ => s8.1 27 (s8.1 7 0).toNatClampNeg)) fun s9 =>
some (s9.1 6 0, s9)))
else (
some (s6.1 6 0, s6))))
else (
bnd ((-1) - x4) fun x10 =>
chkI x10 60 (
bnd (su s3 26 (upd (s3.1 26) x10.toNatClampNeg (-1))) fun s11 =>
bnd (su s11 8 (fun _ => x10)) fun s12 =>
some (s12.1 6 0, s12)))))
set_option maxHeartbeats 4000000 in
set_option maxRecDepth 100000 in
theorem kX8_undo (l : Launch) (D : va_G) (y : Nat → ClassId) (a t : Nat → Nat) (hI : AI a 30) (sz : Nat) (σ τ : St) (r : Int32) (hm : mX8_undo σ = some (r, τ)) : Met l yX8_undo zX8_undo { frames := 1, cells := 0, slots := 0, locals := 21 } (va_Pc [.ref (a 0)] (preW (wM y a) a 30 D y t σ sz)) (va_Qi (fun r' u => r' = r ∧ u = τ) (posW (wM y a) D) (AC a 30 sz)) 0 0 (AC a 30 sz) := by
  refine Met.ofW (cc := cX8_undo) (maxL := 3) (ret := (some .int)) (by decide) rfl ?_
  intro p e s m args below meth c s₁ B hml hv
  obtain ⟨rfl, hsz, hP, hK, hF⟩ := hv
  have hx := B.exec
  have hb := B.bytes
  have hr := B.returns
  have hts := atoms_spec (ws := zX8_undo) B.pre
  have hown : s.vm.findClass RX8 = some m.cls := findClass_of_methodNamed B.named
  have hlocks := B.notSynchronized
  subst hsz
  have l_f106 := hts _ (List.mem_cons_of_mem _ aF_X8_106)
  have l_f205 := hts _ (List.mem_cons_of_mem _ aF_X8_205)
  have l_f64 := hts _ (List.mem_cons_of_mem _ aF_X8_64)
  have l_f199 := hts _ (List.mem_cons_of_mem _ aF_X8_199)
  have l_f43 := hts _ (List.mem_cons_of_mem _ aF_X8_43)
  have l_f202 := hts _ (List.mem_cons_of_mem _ aF_X8_202)
  have l_f58 := hts _ (List.mem_cons_of_mem _ aF_X8_58)
  have l_f61 := hts _ (List.mem_cons_of_mem _ aF_X8_61)
  have l_f55 := hts _ (List.mem_cons_of_mem _ aF_X8_55)
  have h_X8 : ∀ w ∈ wsX80, w.before _ s = true := fun w hw => hts w (List.mem_cons_of_mem _ (hwX8 w hw))
  have hS : va_S (AC a 30 s.heap.size) s.heap s.heap [] := va_S.rf
  have hl := lv_entry ([.ref (a 0)]) (n := 3) (Nat.le_of_ble_eq_true rfl)
  rw [lg_entry_eq]
  generalize (lg_sl ([.ref (a 0)]) ++ List.replicate (3 - (lg_sl ([.ref (a 0)])).length) Slot.unset).toArray = ls at hl ⊢
  have hl : lv_has ls 3 [(0, .ref (a 0))] := hl
  unfold mX8_undo at hm
  refine lv_aload_n hx hb dX8_undo_0 rfl (lv_at hl 0 rfl) ?_
  refine lv_iconst (v := 0) hx hb dX8_undo_1 (by decide) ?_
  refine pfX8_thrown hx hb h_X8 hown hK hP hI AC_in hS l_f106 dX8_undo_2 (fun H locs hP hS => ?_)
  generalize es1 : su σ 0 (fun _ => 0) = s1 at hP
  have hm := bnd_x es1.symm hm
  refine lv_aload_n hx hb dX8_undo_5 rfl (lv_at hl 0 rfl) ?_
  refine gfX8_done hx hb h_X8 hown hK hP l_f205 dX8_undo_6 ?_
  refine lv_if_ne (tgt := 18) hx hb dX8_undo_9 (by decide) (fun c2 => ?_) (fun c2 => ?_)
  · have hm := (if_neg c2).symm.trans hm
    refine lv_aload_n hx hb dX8_undo_18 rfl (lv_at hl 0 rfl) ?_
    refine lv_dup hx hb dX8_undo_19 rfl ?_
    refine gfX8_done hx hb h_X8 hown hK hP l_f205 dX8_undo_20 ?_
    refine lv_iconst (v := 1) hx hb dX8_undo_23 (by decide) ?_
    refine lv_isub hx hb dX8_undo_24 ?_
    refine pfX8_done hx hb h_X8 hown hK hP hI AC_in hS l_f205 dX8_undo_25 (fun H locs hP hS => ?_)
    generalize es3 : su s1 9 (fun _ => (s1.1 9 0) - 1) = s3 at hP
    have hm := bnd_x es3.symm hm
    refine lv_aload_n hx hb dX8_undo_28 rfl (lv_at hl 0 rfl) ?_
    refine gfX8_deeds hx hb h_X8 hown hK hP l_f64 dX8_undo_29 ?_
    refine lv_aload_n hx hb dX8_undo_32 rfl (lv_at hl 0 rfl) ?_
    refine gfX8_done hx hb h_X8 hown hK hP l_f205 dX8_undo_33 ?_
    obtain ⟨hi, hm⟩ := ok_I hm
    refine ldM_16 hx hb hK hP hi dX8_undo_36 ?_
    refine lv_topi (fun x4 ex4 => ?_)
    have hm := bnd_x ex4 hm
    refine lv_istore_n (lv' := [(1, .int x4), (0, .ref (a 0))]) hx hb dX8_undo_37 rfl hl (by decide) rfl (fun ls hl => ?_)
    refine lv_iload_n hx hb dX8_undo_38 rfl (lv_at hl 0 rfl) ?_
    refine lv_if_ge (tgt := 63) hx hb dX8_undo_39 (by decide) (fun c5 => ?_) (fun c5 => ?_)
    · have hm := (if_pos c5).symm.trans hm
      refine lv_aload_n hx hb dX8_undo_63 rfl (lv_at hl 1 rfl) ?_
      refine lv_dup hx hb dX8_undo_64 rfl ?_
      refine gfX8_lines hx hb h_X8 hown hK hP l_f199 dX8_undo_65 ?_
      refine lv_iconst (v := 1) hx hb dX8_undo_68 (by decide) ?_
      refine lv_isub hx hb dX8_undo_69 ?_
      refine pfX8_lines hx hb h_X8 hown hK hP hI AC_in hS l_f199 dX8_undo_70 (fun H locs hP hS => ?_)
      generalize es6 : su s3 6 (fun _ => (s3.1 6 0) - 1) = s6 at hP
      have hm := bnd_x es6.symm hm
      refine lv_aload_n hx hb dX8_undo_73 rfl (lv_at hl 1 rfl) ?_
      refine gfX8_rules hx hb h_X8 hown hK hP l_f43 dX8_undo_74 ?_
      refine lv_aload_n hx hb dX8_undo_77 rfl (lv_at hl 1 rfl) ?_
      refine gfX8_lines hx hb h_X8 hown hK hP l_f199 dX8_undo_78 ?_
      obtain ⟨hi, hm⟩ := ok_I hm
      refine ldM_10 hx hb hK hP hi dX8_undo_81 ?_
      refine lv_bipush (v := 14) hx hb dX8_undo_82 (by decide) ?_
      refine lv_icmp_ne (tgt := 110) hx hb dX8_undo_84 (by decide) (fun c7 => ?_) (fun c7 => ?_)
      · have hm := (if_neg c7).symm.trans hm
        refine lv_aload_n hx hb dX8_undo_110 rfl (lv_at hl 1 rfl) ?_
        refine gfX8_lines hx hb h_X8 hown hK hP l_f199 dX8_undo_111 ?_
        exact W.iret (v := s6.1 6 0) hx hb hr (fun T hT hW => ⟨⟨s6.1 6 0, s6, rfl, ⟨congrArg Prod.fst (Option.some.inj hm), congrArg Prod.snd (Option.some.inj hm)⟩, by rw [posW, hT]; exact hP⟩, hS.F hT⟩) hS.2.2 dX8_undo_114
      · have hm := (if_pos c7).symm.trans hm
        refine lv_aload_n hx hb dX8_undo_87 rfl (lv_at hl 1 rfl) ?_
        refine lv_dup hx hb dX8_undo_88 rfl ?_
        refine gfX8_boxes hx hb h_X8 hown hK hP l_f202 dX8_undo_89 ?_
        refine lv_iconst (v := 1) hx hb dX8_undo_92 (by decide) ?_
        refine lv_isub hx hb dX8_undo_93 ?_
        refine pfX8_boxes hx hb h_X8 hown hK hP hI AC_in hS l_f202 dX8_undo_94 (fun H locs hP hS => ?_)
        generalize es8 : su s6 7 (fun _ => (s6.1 7 0) - 1) = s8 at hP
        have hm := bnd_x es8.symm hm
        refine lv_aload_n hx hb dX8_undo_97 rfl (lv_at hl 1 rfl) ?_
        refine lv_aload_n hx hb dX8_undo_98 rfl (lv_at hl 1 rfl) ?_
        refine gfX8_outer hx hb h_X8 hown hK hP l_f58 dX8_undo_99 ?_
        refine lv_aload_n hx hb dX8_undo_102 rfl (lv_at hl 1 rfl) ?_
        refine gfX8_boxes hx hb h_X8 hown hK hP l_f202 dX8_undo_103 ?_
        obtain ⟨hi, hm⟩ := ok_I hm
        refine ldM_15 hx hb hK hP hi dX8_undo_106 ?_
        refine pfX8_inner hx hb h_X8 hown hK hP hI AC_in hS l_f61 dX8_undo_107 (fun H locs hP hS => ?_)
        generalize es9 : su s8 8 (fun _ => s8.1 27 (s8.1 7 0).toNatClampNeg) = s9 at hP
        have hm := bnd_x es9.symm hm
        refine lv_aload_n hx hb dX8_undo_110 rfl (lv_at hl 1 rfl) ?_
        refine gfX8_lines hx hb h_X8 hown hK hP l_f199 dX8_undo_111 ?_
        exact W.iret (v := s9.1 6 0) hx hb hr (fun T hT hW => ⟨⟨s9.1 6 0, s9, rfl, ⟨congrArg Prod.fst (Option.some.inj hm), congrArg Prod.snd (Option.some.inj hm)⟩, by rw [posW, hT]; exact hP⟩, hS.F hT⟩) hS.2.2 dX8_undo_114
    · have hm := (if_neg c5).symm.trans hm
      refine lv_iconst (v := (-1)) hx hb dX8_undo_42 (by decide) ?_
      refine lv_iload_n hx hb dX8_undo_43 rfl (lv_at hl 0 rfl) ?_
      refine lv_isub hx hb dX8_undo_44 ?_
      refine lv_topi (fun x10 ex10 => ?_)
      have hm := bnd_x ex10 hm
      refine lv_istore_n (lv' := [(2, .int x10), (1, .int x4), (0, .ref (a 0))]) hx hb dX8_undo_45 rfl hl (by decide) rfl (fun ls hl => ?_)
      refine lv_aload_n hx hb dX8_undo_46 rfl (lv_at hl 2 rfl) ?_
      refine gfX8_ends hx hb h_X8 hown hK hP l_f55 dX8_undo_47 ?_
      refine lv_iload_n hx hb dX8_undo_50 rfl (lv_at hl 0 rfl) ?_
      refine lv_iconst (v := (-1)) hx hb dX8_undo_51 (by decide) ?_
      obtain ⟨hi, hm⟩ := ok_I hm
      refine stM_14 hx hb hK hP hI AC_in hS hi dX8_undo_52 (fun H locs hP hS => ?_)
      generalize es11 : su s3 26 (upd (s3.1 26) x10.toNatClampNeg (-1)) = s11 at hP
      have hm := bnd_x es11.symm hm
      refine lv_aload_n hx hb dX8_undo_53 rfl (lv_at hl 2 rfl) ?_
      refine lv_iload_n hx hb dX8_undo_54 rfl (lv_at hl 0 rfl) ?_
      refine pfX8_inner hx hb h_X8 hown hK hP hI AC_in hS l_f61 dX8_undo_55 (fun H locs hP hS => ?_)
      generalize es12 : su s11 8 (fun _ => x10) = s12 at hP
      have hm := bnd_x es12.symm hm
      refine lv_aload_n hx hb dX8_undo_58 rfl (lv_at hl 2 rfl) ?_
      refine gfX8_lines hx hb h_X8 hown hK hP l_f199 dX8_undo_59 ?_
      exact W.iret (v := s12.1 6 0) hx hb hr (fun T hT hW => ⟨⟨s12.1 6 0, s12, rfl, ⟨congrArg Prod.fst (Option.some.inj hm), congrArg Prod.snd (Option.some.inj hm)⟩, by rw [posW, hT]; exact hP⟩, hS.F hT⟩) hS.2.2 dX8_undo_62
  · have hm := (if_pos c2).symm.trans hm
    refine lv_aload_n hx hb dX8_undo_12 rfl (lv_at hl 0 rfl) ?_
    refine lv_iconst (v := 1) hx hb dX8_undo_13 (by decide) ?_
    obtain ⟨⟨r13, s15⟩, h14, hm⟩ := ok_bind hm
    refine calV_i (As := [.int 1]) (rest := []) ⟨hx, hb, hml, hown, hts⟩ (kX8_no l D y a t hI _ s1 s15 1 r13 h14) (cwV 1 hts (gAV aM_X8_119 aI_X8_no aS_X8_no aN_X8 aC_X8_no) rfl rfl rfl eX8_no ⟨Nat.le_of_ble_eq_true rfl, Nat.le_of_ble_eq_true rfl⟩) (preV_W (ci := 8) (q := (RX8, TX8, 42)) hK hP hF hS rfl (wM_0 y a s1)) rfl hl.1 rfl (Nat.le_of_ble_eq_true rfl) dX8_undo_14 ⟨Nat.zero_le _, Nat.zero_le _⟩ hS (AC_le hS.1) (fun H locs hP hS hk1 => ?_)
    exact W.iret (v := r13) hx hb hr (fun T hT hW => ⟨⟨r13, s15, rfl, ⟨congrArg Prod.fst (Option.some.inj hm), congrArg Prod.snd (Option.some.inj hm)⟩, by rw [posW, hT]; exact hP⟩, hS.F hT⟩) hS.2.2 dX8_undo_17
theorem eX8_need : yX8_need.cls = RX8 ∧ yX8_need.cls ≠ "java/lang/invoke/MethodHandle" ∧ yX8_need.cls ≠ "java/lang/invoke/VarHandle" ∧ (parseMethodDescriptor yX8_need.desc).map (fun d => d.parameters.length) = some 2 := by decide +kernel
def mX8_need_12 (s3 : St) (v1 : Int32) (v2 : Int32) : Option St :=
if v1 = 2 then (
chkI v2 60 (
chkI (s3.1 25 v2.toNatClampNeg) 60 (
bnd (su s3 40 (upd (s3.1 40) (s3.1 25 v2.toNatClampNeg).toNatClampNeg (vp_nar .boolean 1))) fun s5 =>
chkI v2 60 (
chkI (s5.1 26 v2.toNatClampNeg) 60 (
bnd (su s5 40 (upd (s5.1 40) (s5.1 26 v2.toNatClampNeg).toNatClampNeg (vp_nar .boolean 1))) fun s6 =>
some s6)))))
else (
some s3)
def mX8_need (σ : St) (p1 : Int32) (p2 : Int32) : Option St :=
if p1 = 1 then (
chkI p2 60 (
bnd (su σ 40 (upd (σ.1 40) p2.toNatClampNeg (vp_nar .boolean 1))) fun s8 =>
mX8_need_12 s8 p1 p2))
else (
mX8_need_12 σ p1 p2)
set_option maxHeartbeats 4000000 in
set_option maxRecDepth 100000 in
theorem kX8_need (l : Launch) (D : va_G) (y : Nat → ClassId) (a t : Nat → Nat) (hI : AI a 30) (sz : Nat) (σ τ : St) (p1 : Int32) (p2 : Int32) (hm : mX8_need σ p1 p2 = some τ) : Met l yX8_need zX8_need { frames := 0, cells := 0, slots := 0, locals := 0 } (va_Pc [.ref (a 0), .int p1, .int p2] (preW (wM y a) a 30 D y t σ sz)) (va_Qv (fun u => u = τ) (posW (wM y a) D) (AC a 30 sz)) 0 0 (AC a 30 sz) := by
  refine Met.ofW (cc := cX8_need) (maxL := 3) (ret := none) (by decide) rfl ?_
  intro p e s m args below meth c s₁ B hml hv
  obtain ⟨rfl, hsz, hP, hK, hF⟩ := hv
  have hx := B.exec
  have hb := B.bytes
  have hr := B.returns
  have hts := atoms_spec (ws := zX8_need) B.pre
  have hown : s.vm.findClass RX8 = some m.cls := findClass_of_methodNamed B.named
  have hlocks := B.notSynchronized
  subst hsz
  have l_f100 := hts _ (List.mem_cons_of_mem _ aF_X8_100)
  have l_f52 := hts _ (List.mem_cons_of_mem _ aF_X8_52)
  have l_f55 := hts _ (List.mem_cons_of_mem _ aF_X8_55)
  have h_X8 : ∀ w ∈ wsX80, w.before _ s = true := fun w hw => hts w (List.mem_cons_of_mem _ (hwX8 w hw))
  have hS : va_S (AC a 30 s.heap.size) s.heap s.heap [] := va_S.rf
  have hl := lv_entry ([.ref (a 0), .int p1, .int p2]) (n := 3) (Nat.le_of_ble_eq_true rfl)
  rw [lg_entry_eq]
  generalize (lg_sl ([.ref (a 0), .int p1, .int p2]) ++ List.replicate (3 - (lg_sl ([.ref (a 0), .int p1, .int p2])).length) Slot.unset).toArray = ls at hl ⊢
  have hl : lv_has ls 3 [(0, .ref (a 0)), (1, .int p1), (2, .int p2)] := hl
  have L_12 : ∀ (s3 : St) (v1 : Int32) (v2 : Int32) (H : Heap) (locs : List Loc) (ls : Array Slot), va_P D vwCl (wM y a s3) H → va_S (AC a 30 s.heap.size) s.heap H locs → lv_has ls 3 [(0, .ref (a 0)), (1, .int v1), (2, .int v2)] → mX8_need_12 s3 v1 v2 = some τ → W p l e (headSpec zX8_need ({ frames := 0, cells := 0, slots := 0, locals := 0 })).room s m ([.ref (a 0), .int p1, .int p2] : List Value).toArray below meth c H locs 0 0 (MQ below (va_Qv (fun u => u = τ) (posW (wM y a) D) (AC a 30 s.heap.size)) ([.ref (a 0), .int p1, .int p2] : List Value).toArray s 0 0 (AC a 30 s.heap.size)) (F0 m 12 ls []) := by
    intro s3 v1 v2 H locs ls hP hS hl hm
    unfold mX8_need_12 at hm
    refine lv_iload_n hx hb dX8_need_12 rfl (lv_at hl 1 rfl) ?_
    refine lv_iconst (v := 2) hx hb dX8_need_13 (by decide) ?_
    refine lv_icmp_eq (tgt := 18) hx hb dX8_need_14 (by decide) (fun c4 => ?_) (fun c4 => ?_)
    · have hm := (if_pos c4).symm.trans hm
      refine lv_aload_n hx hb dX8_need_18 rfl (lv_at hl 0 rfl) ?_
      refine gfX8_areNeeded hx hb h_X8 hown hK hP l_f100 dX8_need_19 ?_
      refine lv_aload_n hx hb dX8_need_22 rfl (lv_at hl 0 rfl) ?_
      refine gfX8_begins hx hb h_X8 hown hK hP l_f52 dX8_need_23 ?_
      refine lv_iload_n hx hb dX8_need_26 rfl (lv_at hl 2 rfl) ?_
      obtain ⟨hi, hm⟩ := ok_I hm
      refine ldM_13 hx hb hK hP hi dX8_need_27 ?_
      refine lv_iconst (v := 1) hx hb dX8_need_28 (by decide) ?_
      obtain ⟨hi, hm⟩ := ok_I hm
      refine stM_28 hx hb hK hP hI AC_in hS hi dX8_need_29 (fun H locs hP hS => ?_)
      generalize es5 : su s3 40 (upd (s3.1 40) (s3.1 25 v2.toNatClampNeg).toNatClampNeg (vp_nar .boolean 1)) = s5 at hP
      have hm := bnd_x es5.symm hm
      refine lv_aload_n hx hb dX8_need_30 rfl (lv_at hl 0 rfl) ?_
      refine gfX8_areNeeded hx hb h_X8 hown hK hP l_f100 dX8_need_31 ?_
      refine lv_aload_n hx hb dX8_need_34 rfl (lv_at hl 0 rfl) ?_
      refine gfX8_ends hx hb h_X8 hown hK hP l_f55 dX8_need_35 ?_
      refine lv_iload_n hx hb dX8_need_38 rfl (lv_at hl 2 rfl) ?_
      obtain ⟨hi, hm⟩ := ok_I hm
      refine ldM_14 hx hb hK hP hi dX8_need_39 ?_
      refine lv_iconst (v := 1) hx hb dX8_need_40 (by decide) ?_
      obtain ⟨hi, hm⟩ := ok_I hm
      refine stM_28 hx hb hK hP hI AC_in hS hi dX8_need_41 (fun H locs hP hS => ?_)
      generalize es6 : su s5 40 (upd (s5.1 40) (s5.1 26 v2.toNatClampNeg).toNatClampNeg (vp_nar .boolean 1)) = s6 at hP
      have hm := bnd_x es6.symm hm
      exact W.vret hx hb hr (fun T hT hW => ⟨⟨s6, rfl, Option.some.inj hm, by rw [posW, hT]; exact hP⟩, hS.F hT⟩) hS.2.2 dX8_need_42
    · have hm := (if_neg c4).symm.trans hm
      exact W.vret hx hb hr (fun T hT hW => ⟨⟨s3, rfl, Option.some.inj hm, by rw [posW, hT]; exact hP⟩, hS.F hT⟩) hS.2.2 dX8_need_17
  unfold mX8_need at hm
  refine lv_iload_n hx hb dX8_need_0 rfl (lv_at hl 1 rfl) ?_
  refine lv_iconst (v := 1) hx hb dX8_need_1 (by decide) ?_
  refine lv_icmp_ne (tgt := 12) hx hb dX8_need_2 (by decide) (fun c7 => ?_) (fun c7 => ?_)
  · have hm := (if_neg c7).symm.trans hm
    exact L_12 σ p1 p2 _ _ _ hP hS (lv_sub hl [0, 1, 2] rfl) hm
  · have hm := (if_pos c7).symm.trans hm
    refine lv_aload_n hx hb dX8_need_5 rfl (lv_at hl 0 rfl) ?_
    refine gfX8_areNeeded hx hb h_X8 hown hK hP l_f100 dX8_need_6 ?_
    refine lv_iload_n hx hb dX8_need_9 rfl (lv_at hl 2 rfl) ?_
    refine lv_iconst (v := 1) hx hb dX8_need_10 (by decide) ?_
    obtain ⟨hi, hm⟩ := ok_I hm
    refine stM_28 hx hb hK hP hI AC_in hS hi dX8_need_11 (fun H locs hP hS => ?_)
    generalize es8 : su σ 40 (upd (σ.1 40) p2.toNatClampNeg (vp_nar .boolean 1)) = s8 at hP
    have hm := bnd_x es8.symm hm
    exact L_12 s8 p1 p2 _ _ _ hP hS (lv_sub hl [0, 1, 2] rfl) hm
theorem eX8_look : yX8_look.cls = RX8 ∧ yX8_look.cls ≠ "java/lang/invoke/MethodHandle" ∧ yX8_look.cls ≠ "java/lang/invoke/VarHandle" ∧ (parseMethodDescriptor yX8_look.desc).map (fun d => d.parameters.length) = some 0 := by decide +kernel
def mX8_look_153 (kh46 : St → Int32 → Int32 → Option (Int32 × St)) (s3 : St) (v1 : Int32) (v2 : Int32) : Option (Int32 × St) :=
bnd (v2 + (-1)) fun x4 =>
kh46 s3 v1 x4
def bX8_look_46 (kh46 : St → Int32 → Int32 → Option (Int32 × St)) (s7 : St) (v5 : Int32) (v6 : Int32) : Option (Int32 × St) :=
if v6 < 0 then (
some (v5, s7))
else (
chkI v6 60 (
if (s7.1 40 v6.toNatClampNeg) = 0 then (
mX8_look_153 kh46 s7 v5 v6)
else (
bnd (v5 + 1) fun x10 =>
chkI v6 60 (
if (s7.1 22 v6.toNatClampNeg) < 14 then (
chkI v6 60 (
chkI (3 * v6) 180 (
(mX8_needs s7 (s7.1 22 v6.toNatClampNeg) (s7.1 23 (3 * v6).toNatClampNeg)).bind fun r12 =>
chkI (3 * v6) 180 (
(mX8_need s7 (r12 / 100) (s7.1 23 (3 * v6).toNatClampNeg)).bind fun s15 =>
chkI ((3 * v6) + 1) 180 (
(mX8_need s15 ((r12 / 10) - (r12 / 10) / 10 * 10) (s15.1 23 ((3 * v6) + 1).toNatClampNeg)).bind fun s17 =>
chkI ((3 * v6) + 2) 180 (
(mX8_need s17 (r12 - r12 / 10 * 10) (s17.1 23 ((3 * v6) + 2).toNatClampNeg)).bind fun s19 =>
mX8_look_153 kh46 s19 x10 v6))))))
else (
mX8_look_153 kh46 s7 x10 v6)))))
abbrev mX8_look_46 (n : Nat) : St → Int32 → Int32 → Option (Int32 × St) := fx (fun _ _ _ => none) (bX8_look_46) n
def mX8_look_37 (s20 : St) : Option (Int32 × St) :=
bnd ((s20.1 6 0) - 1) fun x21 =>
mX8_look_46 NF s20 0 x21
def mX8_look_30 (kh2 : St → Int32 → Option (Int32 × St)) (s25 : St) (v22 : Int32) (v23 : Int32) (v24 : Int32) : Option (Int32 × St) :=
chkI v24 60 (
bnd (su s25 40 (upd (s25.1 40) v24.toNatClampNeg (vp_nar .boolean v23))) fun s26 =>
bnd (v22 + 1) fun x27 =>
kh2 s26 x27)
def bX8_look_2 (kh2 : St → Int32 → Option (Int32 × St)) (s29 : St) (v28 : Int32) : Option (Int32 × St) :=
if (s29.1 6 0) ≤ v28 then (
mX8_look_37 s29)
else (
if (v28 + 1) = (s29.1 6 0) then (
mX8_look_30 kh2 s29 v28 1 v28)
else (
mX8_look_30 kh2 s29 v28 0 v28))
abbrev mX8_look_2 (n : Nat) : St → Int32 → Option (Int32 × St) := fx (fun _ _ => none) (bX8_look_2) n
def mX8_look (σ : St) : Option (Int32 × St) :=
mX8_look_2 NF σ 0
set_option maxHeartbeats 4000000 in
set_option maxRecDepth 100000 in
theorem kX8_look (l : Launch) (D : va_G) (y : Nat → ClassId) (a t : Nat → Nat) (hI : AI a 30) (sz : Nat) (σ τ : St) (r : Int32) (hm : mX8_look σ = some (r, τ)) : Met l yX8_look zX8_look { frames := 2, cells := 0, slots := 0, locals := 44 } (va_Pc [.ref (a 0)] (preW (wM y a) a 30 D y t σ sz)) (va_Qi (fun r' u => r' = r ∧ u = τ) (posW (wM y a) D) (AC a 30 sz)) 0 0 (AC a 30 sz) := by
  refine Met.ofW (cc := cX8_look) (maxL := 4) (ret := (some .int)) (by decide) rfl ?_
  intro p e s m args below meth c s₁ B hml hv
  obtain ⟨rfl, hsz, hP, hK, hF⟩ := hv
  have hx := B.exec
  have hb := B.bytes
  have hr := B.returns
  have hts := atoms_spec (ws := zX8_look) B.pre
  have hown : s.vm.findClass RX8 = some m.cls := findClass_of_methodNamed B.named
  have hlocks := B.notSynchronized
  subst hsz
  have l_f199 := hts _ (List.mem_cons_of_mem _ aF_X8_199)
  have l_f100 := hts _ (List.mem_cons_of_mem _ aF_X8_100)
  have l_f43 := hts _ (List.mem_cons_of_mem _ aF_X8_43)
  have l_f46 := hts _ (List.mem_cons_of_mem _ aF_X8_46)
  have h_X8 : ∀ w ∈ wsX80, w.before _ s = true := fun w hw => hts w (List.mem_cons_of_mem _ (hwX8 w hw))
  have hS : va_S (AC a 30 s.heap.size) s.heap s.heap [] := va_S.rf
  have hl := lv_entry ([.ref (a 0)]) (n := 4) (Nat.le_of_ble_eq_true rfl)
  rw [lg_entry_eq]
  generalize (lg_sl ([.ref (a 0)]) ++ List.replicate (4 - (lg_sl ([.ref (a 0)])).length) Slot.unset).toArray = ls at hl ⊢
  have hl : lv_has ls 4 [(0, .ref (a 0))] := hl
  have L_46 : ∀ (n : Nat) (s7 : St) (v5 : Int32) (v6 : Int32) (H : Heap) (locs : List Loc) (ls : Array Slot), va_P D vwCl (wM y a s7) H → va_S (AC a 30 s.heap.size) s.heap H locs → lv_has ls 4 [(0, .ref (a 0)), (1, .int v5), (2, .int v6)] → mX8_look_46 n s7 v5 v6 = some (r, τ) → W p l e (headSpec zX8_look ({ frames := 2, cells := 0, slots := 0, locals := 44 })).room s m ([.ref (a 0)] : List Value).toArray below meth c H locs 0 0 (MQ below (va_Qi (fun r' u => r' = r ∧ u = τ) (posW (wM y a) D) (AC a 30 s.heap.size)) ([.ref (a 0)] : List Value).toArray s 0 0 (AC a 30 s.heap.size)) (F0 m 46 ls []) := by
    intro n
    induction n with
    | zero =>
      intro s7 v5 v6 H locs ls hP hS hl hm
      exact absurd (show (none : Option (Int32 × St)) = some (r, τ) from hm) (by intro h; cases h)
    | succ n ih46 =>
      obtain ⟨kh46, ekh46⟩ : ∃ z, z = mX8_look_46 n := ⟨_, rfl⟩
      have ih46 : ∀ (s7 : St) (v5 : Int32) (v6 : Int32) (H : Heap) (locs : List Loc) (ls : Array Slot), va_P D vwCl (wM y a s7) H → va_S (AC a 30 s.heap.size) s.heap H locs → lv_has ls 4 [(0, .ref (a 0)), (1, .int v5), (2, .int v6)] → kh46 s7 v5 v6 = some (r, τ) → W p l e (headSpec zX8_look ({ frames := 2, cells := 0, slots := 0, locals := 44 })).room s m ([.ref (a 0)] : List Value).toArray below meth c H locs 0 0 (MQ below (va_Qi (fun r' u => r' = r ∧ u = τ) (posW (wM y a) D) (AC a 30 s.heap.size)) ([.ref (a 0)] : List Value).toArray s 0 0 (AC a 30 s.heap.size)) (F0 m 46 ls []) := by rw [ekh46]; exact ih46
      have L_153 : ∀ (s3 : St) (v1 : Int32) (v2 : Int32) (H : Heap) (locs : List Loc) (ls : Array Slot), va_P D vwCl (wM y a s3) H → va_S (AC a 30 s.heap.size) s.heap H locs → lv_has ls 4 [(0, .ref (a 0)), (1, .int v1), (2, .int v2)] → mX8_look_153 kh46 s3 v1 v2 = some (r, τ) → W p l e (headSpec zX8_look ({ frames := 2, cells := 0, slots := 0, locals := 44 })).room s m ([.ref (a 0)] : List Value).toArray below meth c H locs 0 0 (MQ below (va_Qi (fun r' u => r' = r ∧ u = τ) (posW (wM y a) D) (AC a 30 s.heap.size)) ([.ref (a 0)] : List Value).toArray s 0 0 (AC a 30 s.heap.size)) (F0 m 153 ls []) := by
        intro s3 v1 v2 H locs ls hP hS hl hm
        unfold mX8_look_153 at hm
        obtain ⟨x4, ex4⟩ : ∃ z : Int32, z = v2 + (-1) := ⟨_, rfl⟩
        have hm := bnd_x ex4 hm
        refine lv_iinc (v := x4) (lv' := [(2, .int x4), (0, .ref (a 0)), (1, .int v1)]) hx hb dX8_look_153 hl (k := 2) rfl (by rw [ex4]; rfl) (by decide) rfl (fun ls hl => ?_)
        refine lv_goto (tgt := 46) hx hb dX8_look_156 (by decide) ?_
        exact ih46 s3 v1 x4 _ _ _ hP hS (lv_sub hl [1, 2, 0] rfl) hm
      intro s7 v5 v6 H locs ls hP hS hl hm
      have hm : bX8_look_46 (mX8_look_46 n) s7 v5 v6 = some (r, τ) := hm
      rw [← ekh46] at hm
      unfold bX8_look_46 at hm
      refine lv_iload_n hx hb dX8_look_46 rfl (lv_at hl 2 rfl) ?_
      refine lv_if_lt (tgt := 159) hx hb dX8_look_47 (by decide) (fun c8 => ?_) (fun c8 => ?_)
      · have hm := (if_pos c8).symm.trans hm
        refine lv_iload_n hx hb dX8_look_159 rfl (lv_at hl 1 rfl) ?_
        exact W.iret (v := v5) hx hb hr (fun T hT hW => ⟨⟨v5, s7, rfl, ⟨congrArg Prod.fst (Option.some.inj hm), congrArg Prod.snd (Option.some.inj hm)⟩, by rw [posW, hT]; exact hP⟩, hS.F hT⟩) hS.2.2 dX8_look_160
      · have hm := (if_neg c8).symm.trans hm
        refine lv_aload_n hx hb dX8_look_50 rfl (lv_at hl 0 rfl) ?_
        refine gfX8_areNeeded hx hb h_X8 hown hK hP l_f100 dX8_look_51 ?_
        refine lv_iload_n hx hb dX8_look_54 rfl (lv_at hl 2 rfl) ?_
        obtain ⟨hi, hm⟩ := ok_I hm
        refine ldM_28 hx hb hK hP hi dX8_look_55 ?_
        refine lv_if_ne (tgt := 62) hx hb dX8_look_56 (by decide) (fun c9 => ?_) (fun c9 => ?_)
        · have hm := (if_neg c9).symm.trans hm
          obtain ⟨x10, ex10⟩ : ∃ z : Int32, z = v5 + 1 := ⟨_, rfl⟩
          have hm := bnd_x ex10 hm
          refine lv_iinc (v := x10) (lv' := [(1, .int x10), (0, .ref (a 0)), (2, .int v6)]) hx hb dX8_look_62 hl (k := 1) rfl (by rw [ex10]; rfl) (by decide) rfl (fun ls hl => ?_)
          refine lv_aload_n hx hb dX8_look_65 rfl (lv_at hl 1 rfl) ?_
          refine gfX8_rules hx hb h_X8 hown hK hP l_f43 dX8_look_66 ?_
          refine lv_iload_n hx hb dX8_look_69 rfl (lv_at hl 2 rfl) ?_
          obtain ⟨hi, hm⟩ := ok_I hm
          refine ldM_10 hx hb hK hP hi dX8_look_70 ?_
          refine lv_bipush (v := 14) hx hb dX8_look_71 (by decide) ?_
          refine lv_icmp_lt (tgt := 79) hx hb dX8_look_73 (by decide) (fun c11 => ?_) (fun c11 => ?_)
          · have hm := (if_pos c11).symm.trans hm
            refine lv_aload_n hx hb dX8_look_79 rfl (lv_at hl 1 rfl) ?_
            refine lv_aload_n hx hb dX8_look_80 rfl (lv_at hl 1 rfl) ?_
            refine gfX8_rules hx hb h_X8 hown hK hP l_f43 dX8_look_81 ?_
            refine lv_iload_n hx hb dX8_look_84 rfl (lv_at hl 2 rfl) ?_
            obtain ⟨hi, hm⟩ := ok_I hm
            refine ldM_10 hx hb hK hP hi dX8_look_85 ?_
            refine lv_aload_n hx hb dX8_look_86 rfl (lv_at hl 1 rfl) ?_
            refine gfX8_references hx hb h_X8 hown hK hP l_f46 dX8_look_87 ?_
            refine lv_iconst (v := 3) hx hb dX8_look_90 (by decide) ?_
            refine lv_iload_n hx hb dX8_look_91 rfl (lv_at hl 2 rfl) ?_
            refine lv_imul hx hb dX8_look_92 ?_
            obtain ⟨hi, hm⟩ := ok_I hm
            refine ldM_11 hx hb hK hP hi dX8_look_93 ?_
            obtain ⟨r12, h13, hm⟩ := ok_bind hm
            refine calV_i (As := [.int (s7.1 22 v6.toNatClampNeg), .int (s7.1 23 (3 * v6).toNatClampNeg)]) (rest := []) ⟨hx, hb, hml, hown, hts⟩ (kX8_needs l D y a t hI _ s7 (s7.1 22 v6.toNatClampNeg) (s7.1 23 (3 * v6).toNatClampNeg) r12 h13) (cwV 2 hts (gAV aM_X8_239 aI_X8_needs aS_X8_needs aN_X8 aC_X8_needs) rfl rfl rfl eX8_needs ⟨Nat.le_of_ble_eq_true rfl, Nat.le_of_ble_eq_true rfl⟩) (preV_W (ci := 8) (q := (RX8, TX8, 42)) hK hP hF hS rfl (wM_0 y a s7)) rfl hl.1 rfl (Nat.le_of_ble_eq_true rfl) dX8_look_94 ⟨Nat.zero_le _, Nat.zero_le _⟩ hS (AC_le hS.1) (fun H locs hP hS hk1 => ?_)
            refine lv_istore_n (lv' := [(3, .int r12), (1, .int x10), (0, .ref (a 0)), (2, .int v6)]) hx hb dX8_look_97 rfl hl (by decide) rfl (fun ls hl => ?_)
            refine lv_aload_n hx hb dX8_look_98 rfl (lv_at hl 2 rfl) ?_
            refine lv_iload_n hx hb dX8_look_99 rfl (lv_at hl 0 rfl) ?_
            refine lv_bipush (v := 100) hx hb dX8_look_100 (by decide) ?_
            refine lv_idiv hx hb dX8_look_102 (by decide) ?_
            refine lv_aload_n hx hb dX8_look_103 rfl (lv_at hl 2 rfl) ?_
            refine gfX8_references hx hb h_X8 hown hK hP l_f46 dX8_look_104 ?_
            refine lv_iconst (v := 3) hx hb dX8_look_107 (by decide) ?_
            refine lv_iload_n hx hb dX8_look_108 rfl (lv_at hl 3 rfl) ?_
            refine lv_imul hx hb dX8_look_109 ?_
            obtain ⟨hi, hm⟩ := ok_I hm
            refine ldM_11 hx hb hK hP hi dX8_look_110 ?_
            obtain ⟨s15, h14, hm⟩ := ok_bind hm
            refine calV_v (As := [.int (r12 / 100), .int (s7.1 23 (3 * v6).toNatClampNeg)]) (rest := []) ⟨hx, hb, hml, hown, hts⟩ (kX8_need l D y a t hI _ s7 s15 (r12 / 100) (s7.1 23 (3 * v6).toNatClampNeg) h14) (cwV 2 hts (gAV aM_X8_262 aI_X8_need aS_X8_need aN_X8 aC_X8_need) rfl rfl rfl eX8_need ⟨Nat.le_of_ble_eq_true rfl, Nat.le_of_ble_eq_true rfl⟩) (preV_W (ci := 8) (q := (RX8, TX8, 42)) hK hP hF hS rfl (wM_0 y a s7)) rfl hl.1 rfl (Nat.le_of_ble_eq_true rfl) dX8_look_111 ⟨Nat.zero_le _, Nat.zero_le _⟩ hS (AC_le hS.1) (fun H locs hP hS hk1 => ?_)
            refine lv_aload_n hx hb dX8_look_114 rfl (lv_at hl 2 rfl) ?_
            refine lv_iload_n hx hb dX8_look_115 rfl (lv_at hl 0 rfl) ?_
            refine lv_bipush (v := 10) hx hb dX8_look_116 (by decide) ?_
            refine lv_idiv hx hb dX8_look_118 (by decide) ?_
            refine lv_bipush (v := 10) hx hb dX8_look_119 (by decide) ?_
            refine lv_irem hx hb dX8_look_121 (by decide) ?_
            refine lv_aload_n hx hb dX8_look_122 rfl (lv_at hl 2 rfl) ?_
            refine gfX8_references hx hb h_X8 hown hK hP l_f46 dX8_look_123 ?_
            refine lv_iconst (v := 3) hx hb dX8_look_126 (by decide) ?_
            refine lv_iload_n hx hb dX8_look_127 rfl (lv_at hl 3 rfl) ?_
            refine lv_imul hx hb dX8_look_128 ?_
            refine lv_iconst (v := 1) hx hb dX8_look_129 (by decide) ?_
            refine lv_iadd hx hb dX8_look_130 ?_
            obtain ⟨hi, hm⟩ := ok_I hm
            refine ldM_11 hx hb hK hP hi dX8_look_131 ?_
            obtain ⟨s17, h16, hm⟩ := ok_bind hm
            refine calV_v (As := [.int ((r12 / 10) - (r12 / 10) / 10 * 10), .int (s15.1 23 ((3 * v6) + 1).toNatClampNeg)]) (rest := []) ⟨hx, hb, hml, hown, hts⟩ (kX8_need l D y a t hI _ s15 s17 ((r12 / 10) - (r12 / 10) / 10 * 10) (s15.1 23 ((3 * v6) + 1).toNatClampNeg) h16) (cwV 2 hts (gAV aM_X8_262 aI_X8_need aS_X8_need aN_X8 aC_X8_need) rfl rfl rfl eX8_need ⟨Nat.le_of_ble_eq_true rfl, Nat.le_of_ble_eq_true rfl⟩) (preV_W (ci := 8) (q := (RX8, TX8, 42)) hK hP hF hS rfl (wM_0 y a s15)) rfl hl.1 rfl (Nat.le_of_ble_eq_true rfl) dX8_look_132 ⟨Nat.zero_le _, Nat.zero_le _⟩ hS (AC_le hS.1) (fun H locs hP hS hk1 => ?_)
            refine lv_aload_n hx hb dX8_look_135 rfl (lv_at hl 2 rfl) ?_
            refine lv_iload_n hx hb dX8_look_136 rfl (lv_at hl 0 rfl) ?_
            refine lv_bipush (v := 10) hx hb dX8_look_137 (by decide) ?_
            refine lv_irem hx hb dX8_look_139 (by decide) ?_
            refine lv_aload_n hx hb dX8_look_140 rfl (lv_at hl 2 rfl) ?_
            refine gfX8_references hx hb h_X8 hown hK hP l_f46 dX8_look_141 ?_
            refine lv_iconst (v := 3) hx hb dX8_look_144 (by decide) ?_
            refine lv_iload_n hx hb dX8_look_145 rfl (lv_at hl 3 rfl) ?_
            refine lv_imul hx hb dX8_look_146 ?_
            refine lv_iconst (v := 2) hx hb dX8_look_147 (by decide) ?_
            refine lv_iadd hx hb dX8_look_148 ?_
            obtain ⟨hi, hm⟩ := ok_I hm
            refine ldM_11 hx hb hK hP hi dX8_look_149 ?_
            obtain ⟨s19, h18, hm⟩ := ok_bind hm
            refine calV_v (As := [.int (r12 - r12 / 10 * 10), .int (s17.1 23 ((3 * v6) + 2).toNatClampNeg)]) (rest := []) ⟨hx, hb, hml, hown, hts⟩ (kX8_need l D y a t hI _ s17 s19 (r12 - r12 / 10 * 10) (s17.1 23 ((3 * v6) + 2).toNatClampNeg) h18) (cwV 2 hts (gAV aM_X8_262 aI_X8_need aS_X8_need aN_X8 aC_X8_need) rfl rfl rfl eX8_need ⟨Nat.le_of_ble_eq_true rfl, Nat.le_of_ble_eq_true rfl⟩) (preV_W (ci := 8) (q := (RX8, TX8, 42)) hK hP hF hS rfl (wM_0 y a s17)) rfl hl.1 rfl (Nat.le_of_ble_eq_true rfl) dX8_look_150 ⟨Nat.zero_le _, Nat.zero_le _⟩ hS (AC_le hS.1) (fun H locs hP hS hk1 => ?_)
            exact L_153 s19 x10 v6 _ _ _ hP hS (lv_sub hl [2, 1, 3] rfl) hm
          · have hm := (if_neg c11).symm.trans hm
            refine lv_goto (tgt := 153) hx hb dX8_look_76 (by decide) ?_
            exact L_153 s7 x10 v6 _ _ _ hP hS (lv_sub hl [1, 0, 2] rfl) hm
        · have hm := (if_pos c9).symm.trans hm
          refine lv_goto (tgt := 153) hx hb dX8_look_59 (by decide) ?_
          exact L_153 s7 v5 v6 _ _ _ hP hS (lv_sub hl [0, 1, 2] rfl) hm
  have L_37 : ∀ (s20 : St) (H : Heap) (locs : List Loc) (ls : Array Slot), va_P D vwCl (wM y a s20) H → va_S (AC a 30 s.heap.size) s.heap H locs → lv_has ls 4 [(0, .ref (a 0))] → mX8_look_37 s20 = some (r, τ) → W p l e (headSpec zX8_look ({ frames := 2, cells := 0, slots := 0, locals := 44 })).room s m ([.ref (a 0)] : List Value).toArray below meth c H locs 0 0 (MQ below (va_Qi (fun r' u => r' = r ∧ u = τ) (posW (wM y a) D) (AC a 30 s.heap.size)) ([.ref (a 0)] : List Value).toArray s 0 0 (AC a 30 s.heap.size)) (F0 m 37 ls []) := by
    intro s20 H locs ls hP hS hl hm
    unfold mX8_look_37 at hm
    refine lv_iconst (v := 0) hx hb dX8_look_37 (by decide) ?_
    refine lv_istore_n (lv' := [(1, .int 0), (0, .ref (a 0))]) hx hb dX8_look_38 rfl hl (by decide) rfl (fun ls hl => ?_)
    refine lv_aload_n hx hb dX8_look_39 rfl (lv_at hl 1 rfl) ?_
    refine gfX8_lines hx hb h_X8 hown hK hP l_f199 dX8_look_40 ?_
    refine lv_iconst (v := 1) hx hb dX8_look_43 (by decide) ?_
    refine lv_isub hx hb dX8_look_44 ?_
    refine lv_topi (fun x21 ex21 => ?_)
    have hm := bnd_x ex21 hm
    refine lv_istore_n (lv' := [(2, .int x21), (1, .int 0), (0, .ref (a 0))]) hx hb dX8_look_45 rfl hl (by decide) rfl (fun ls hl => ?_)
    exact L_46 NF s20 0 x21 _ _ _ hP hS (lv_sub hl [2, 1, 0] rfl) hm
  have L_2 : ∀ (n : Nat) (s29 : St) (v28 : Int32) (H : Heap) (locs : List Loc) (ls : Array Slot), va_P D vwCl (wM y a s29) H → va_S (AC a 30 s.heap.size) s.heap H locs → lv_has ls 4 [(0, .ref (a 0)), (1, .int v28)] → mX8_look_2 n s29 v28 = some (r, τ) → W p l e (headSpec zX8_look ({ frames := 2, cells := 0, slots := 0, locals := 44 })).room s m ([.ref (a 0)] : List Value).toArray below meth c H locs 0 0 (MQ below (va_Qi (fun r' u => r' = r ∧ u = τ) (posW (wM y a) D) (AC a 30 s.heap.size)) ([.ref (a 0)] : List Value).toArray s 0 0 (AC a 30 s.heap.size)) (F0 m 2 ls []) := by
    intro n
    induction n with
    | zero =>
      intro s29 v28 H locs ls hP hS hl hm
      exact absurd (show (none : Option (Int32 × St)) = some (r, τ) from hm) (by intro h; cases h)
    | succ n ih2 =>
      obtain ⟨kh2, ekh2⟩ : ∃ z, z = mX8_look_2 n := ⟨_, rfl⟩
      have ih2 : ∀ (s29 : St) (v28 : Int32) (H : Heap) (locs : List Loc) (ls : Array Slot), va_P D vwCl (wM y a s29) H → va_S (AC a 30 s.heap.size) s.heap H locs → lv_has ls 4 [(0, .ref (a 0)), (1, .int v28)] → kh2 s29 v28 = some (r, τ) → W p l e (headSpec zX8_look ({ frames := 2, cells := 0, slots := 0, locals := 44 })).room s m ([.ref (a 0)] : List Value).toArray below meth c H locs 0 0 (MQ below (va_Qi (fun r' u => r' = r ∧ u = τ) (posW (wM y a) D) (AC a 30 s.heap.size)) ([.ref (a 0)] : List Value).toArray s 0 0 (AC a 30 s.heap.size)) (F0 m 2 ls []) := by rw [ekh2]; exact ih2
      have L_30 : ∀ (s25 : St) (v22 : Int32) (v23 : Int32) (v24 : Int32) (H : Heap) (locs : List Loc) (ls : Array Slot), va_P D vwCl (wM y a s25) H → va_S (AC a 30 s.heap.size) s.heap H locs → lv_has ls 4 [(0, .ref (a 0)), (1, .int v22)] → mX8_look_30 kh2 s25 v22 v23 v24 = some (r, τ) → W p l e (headSpec zX8_look ({ frames := 2, cells := 0, slots := 0, locals := 44 })).room s m ([.ref (a 0)] : List Value).toArray below meth c H locs 0 0 (MQ below (va_Qi (fun r' u => r' = r ∧ u = τ) (posW (wM y a) D) (AC a 30 s.heap.size)) ([.ref (a 0)] : List Value).toArray s 0 0 (AC a 30 s.heap.size)) (F0 m 30 ls [.int v23, .int v24, .ref (a 28)]) := by
        intro s25 v22 v23 v24 H locs ls hP hS hl hm
        unfold mX8_look_30 at hm
        obtain ⟨hi, hm⟩ := ok_I hm
        refine stM_28 hx hb hK hP hI AC_in hS hi dX8_look_30 (fun H locs hP hS => ?_)
        generalize es26 : su s25 40 (upd (s25.1 40) v24.toNatClampNeg (vp_nar .boolean v23)) = s26 at hP
        have hm := bnd_x es26.symm hm
        obtain ⟨x27, ex27⟩ : ∃ z : Int32, z = v22 + 1 := ⟨_, rfl⟩
        have hm := bnd_x ex27 hm
        refine lv_iinc (v := x27) (lv' := [(1, .int x27), (0, .ref (a 0))]) hx hb dX8_look_31 hl (k := 1) rfl (by rw [ex27]; rfl) (by decide) rfl (fun ls hl => ?_)
        refine lv_goto (tgt := 2) hx hb dX8_look_34 (by decide) ?_
        exact ih2 s26 x27 _ _ _ hP hS (lv_sub hl [1, 0] rfl) hm
      intro s29 v28 H locs ls hP hS hl hm
      have hm : bX8_look_2 (mX8_look_2 n) s29 v28 = some (r, τ) := hm
      rw [← ekh2] at hm
      unfold bX8_look_2 at hm
      refine lv_iload_n hx hb dX8_look_2 rfl (lv_at hl 1 rfl) ?_
      refine lv_aload_n hx hb dX8_look_3 rfl (lv_at hl 0 rfl) ?_
      refine gfX8_lines hx hb h_X8 hown hK hP l_f199 dX8_look_4 ?_
      refine lv_icmp_ge (tgt := 37) hx hb dX8_look_7 (by decide) (fun c30 => ?_) (fun c30 => ?_)
      · have hm := (if_pos c30).symm.trans hm
        exact L_37 s29 _ _ _ hP hS (lv_sub hl [0] rfl) hm
      · have hm := (if_neg c30).symm.trans hm
        refine lv_aload_n hx hb dX8_look_10 rfl (lv_at hl 0 rfl) ?_
        refine gfX8_areNeeded hx hb h_X8 hown hK hP l_f100 dX8_look_11 ?_
        refine lv_iload_n hx hb dX8_look_14 rfl (lv_at hl 1 rfl) ?_
        refine lv_iload_n hx hb dX8_look_15 rfl (lv_at hl 1 rfl) ?_
        refine lv_iconst (v := 1) hx hb dX8_look_16 (by decide) ?_
        refine lv_iadd hx hb dX8_look_17 ?_
        refine lv_aload_n hx hb dX8_look_18 rfl (lv_at hl 0 rfl) ?_
        refine gfX8_lines hx hb h_X8 hown hK hP l_f199 dX8_look_19 ?_
        refine lv_icmp_ne (tgt := 29) hx hb dX8_look_22 (by decide) (fun c31 => ?_) (fun c31 => ?_)
        · have hm := (if_neg c31).symm.trans hm
          refine lv_iconst (v := 0) hx hb dX8_look_29 (by decide) ?_
          exact L_30 s29 v28 0 v28 _ _ _ hP hS (lv_sub hl [0, 1] rfl) hm
        · have hm := (if_pos c31).symm.trans hm
          refine lv_iconst (v := 1) hx hb dX8_look_25 (by decide) ?_
          refine lv_goto (tgt := 30) hx hb dX8_look_26 (by decide) ?_
          exact L_30 s29 v28 1 v28 _ _ _ hP hS (lv_sub hl [0, 1] rfl) hm
  unfold mX8_look at hm
  refine lv_iconst (v := 0) hx hb dX8_look_0 (by decide) ?_
  refine lv_istore_n (lv' := [(1, .int 0), (0, .ref (a 0))]) hx hb dX8_look_1 rfl hl (by decide) rfl (fun ls hl => ?_)
  exact L_2 NF σ 0 _ _ _ hP hS (lv_sub hl [1, 0] rfl) hm
theorem eX8_counted : yX8_counted.cls = RX8 ∧ yX8_counted.cls ≠ "java/lang/invoke/MethodHandle" ∧ yX8_counted.cls ≠ "java/lang/invoke/VarHandle" ∧ (parseMethodDescriptor yX8_counted.desc).map (fun d => d.parameters.length) = some 1 := by decide +kernel
def mX8_counted (σ : St) (p1 : Int32) : Option (Int32 × St) :=
bnd (su σ 42 (fun _ => 0)) fun s1 =>
chkI 0 9 (
bnd (su s1 42 (upd (s1.1 42) (0 : Int32).toNatClampNeg (s1.1 5 0))) fun s2 =>
chkI 1 9 (
bnd (su s2 42 (upd (s2.1 42) (1 : Int32).toNatClampNeg (s2.1 1 0))) fun s3 =>
chkI 2 9 (
bnd (su s3 42 (upd (s3.1 42) (2 : Int32).toNatClampNeg (s3.1 4 0))) fun s4 =>
chkI 3 9 (
bnd (su s4 42 (upd (s4.1 42) (3 : Int32).toNatClampNeg (s4.1 6 0))) fun s5 =>
chkI 4 9 (
bnd (su s5 42 (upd (s5.1 42) (4 : Int32).toNatClampNeg (s5.1 7 0))) fun s6 =>
(mX8_open s6).bind fun r7 =>
bnd (su s6 42 (s6.1 42)) fun s9 =>
chkI 5 9 (
bnd (su s9 42 (upd (s9.1 42) (5 : Int32).toNatClampNeg r7)) fun s10 =>
(mX8_premisesNow s10).bind fun r11 =>
bnd (su s10 42 (s10.1 42)) fun s13 =>
chkI 6 9 (
bnd (su s13 42 (upd (s13.1 42) (6 : Int32).toNatClampNeg r11)) fun s14 =>
chkI 7 9 (
bnd (su s14 42 (upd (s14.1 42) (7 : Int32).toNatClampNeg (s14.1 10 0))) fun s15 =>
(mX8_look s15).bind fun ⟨r16, s18⟩ =>
bnd (su s18 42 (s15.1 42)) fun s19 =>
chkI 8 9 (
bnd (su s19 42 (upd (s19.1 42) (8 : Int32).toNatClampNeg r16)) fun s20 =>
chkI p1 9 (
some (s20.1 42 p1.toNatClampNeg, s20)))))))))))
set_option maxHeartbeats 4000000 in
set_option maxRecDepth 100000 in
theorem kX8_counted (l : Launch) (D : va_G) (y : Nat → ClassId) (a t : Nat → Nat) (hI : AI a 30) (sz : Nat) (σ τ : St) (p1 : Int32) (r : Int32) (hm : mX8_counted σ p1 = some (r, τ)) : Met l yX8_counted zX8_counted { frames := 3, cells := 1, slots := 9, locals := 67 } (va_Pc [.ref (a 0), .int p1] (preW (wM y a) a 30 D y t σ sz)) (va_Qi (fun r' u => r' = r ∧ u = τ) (posW (wM y a) D) (AC a 30 sz)) 1 9 (AC a 30 sz) := by
  refine Met.ofW (cc := cX8_counted) (maxL := 3) (ret := (some .int)) (by decide) rfl ?_
  intro p e s m args below meth c s₁ B hml hv
  obtain ⟨rfl, hsz, hP, hK, hF⟩ := hv
  have hx := B.exec
  have hb := B.bytes
  have hr := B.returns
  have hts := atoms_spec (ws := zX8_counted) B.pre
  have hown : s.vm.findClass RX8 = some m.cls := findClass_of_methodNamed B.named
  have hlocks := B.notSynchronized
  subst hsz
  have l_arr := hts _ (List.mem_cons_of_mem _ aA_int)
  have l_f109 := hts _ (List.mem_cons_of_mem _ aF_X8_109)
  have l_f116 := hts _ (List.mem_cons_of_mem _ aF_X8_116)
  have l_f196 := hts _ (List.mem_cons_of_mem _ aF_X8_196)
  have l_f199 := hts _ (List.mem_cons_of_mem _ aF_X8_199)
  have l_f202 := hts _ (List.mem_cons_of_mem _ aF_X8_202)
  have l_f227 := hts _ (List.mem_cons_of_mem _ aF_X8_227)
  have h_X8 : ∀ w ∈ wsX80, w.before _ s = true := fun w hw => hts w (List.mem_cons_of_mem _ (hwX8 w hw))
  have hS : va_S (AC a 30 s.heap.size) s.heap s.heap [] := va_S.rf
  have hl := lv_entry ([.ref (a 0), .int p1]) (n := 3) (Nat.le_of_ble_eq_true rfl)
  rw [lg_entry_eq]
  generalize (lg_sl ([.ref (a 0), .int p1]) ++ List.replicate (3 - (lg_sl ([.ref (a 0), .int p1])).length) Slot.unset).toArray = ls at hl ⊢
  have hl : lv_has ls 3 [(0, .ref (a 0)), (1, .int p1)] := hl
  unfold mX8_counted at hm
  refine lv_bipush (v := 9) hx hb dX8_counted_0 (by decide) ?_
  refine nwN (n := 9) hx hb l_arr hK hP hI AC_in hS AC_new (by decide) rfl (Nat.le_of_ble_eq_true rfl) (Nat.le_of_ble_eq_true rfl) (Nat.le_of_ble_eq_true rfl) dX8_counted_2 (fun q H hIq hAq hP hS => ?_)
  refine W.widen (k := 1) (n := 9) (by decide) (by decide) ?_
  generalize es1 : su σ 42 (fun _ => 0) = s1 at hP
  have hm := bnd_x es1.symm hm
  refine lv_dup hx hb dX8_counted_4 rfl ?_
  refine lv_iconst (v := 0) hx hb dX8_counted_5 (by decide) ?_
  refine lv_aload_n hx hb dX8_counted_6 rfl (lv_at hl 0 rfl) ?_
  refine gfNX8_formulas hx hb h_X8 hown hK hP l_f109 dX8_counted_7 ?_
  obtain ⟨hi, hm⟩ := ok_I hm
  refine stN_30 hx hb hK hP hIq hAq hS hi dX8_counted_10 (fun H locs hP hS => ?_)
  generalize es2 : su s1 42 (upd (s1.1 42) (0 : Int32).toNatClampNeg (s1.1 5 0)) = s2 at hP
  have hm := bnd_x es2.symm hm
  refine lv_dup hx hb dX8_counted_11 rfl ?_
  refine lv_iconst (v := 1) hx hb dX8_counted_12 (by decide) ?_
  refine lv_aload_n hx hb dX8_counted_13 rfl (lv_at hl 0 rfl) ?_
  refine gfNX8_length hx hb h_X8 hown hK hP l_f116 dX8_counted_14 ?_
  obtain ⟨hi, hm⟩ := ok_I hm
  refine stN_30 hx hb hK hP hIq hAq hS hi dX8_counted_17 (fun H locs hP hS => ?_)
  generalize es3 : su s2 42 (upd (s2.1 42) (1 : Int32).toNatClampNeg (s2.1 1 0)) = s3 at hP
  have hm := bnd_x es3.symm hm
  refine lv_dup hx hb dX8_counted_18 rfl ?_
  refine lv_iconst (v := 2) hx hb dX8_counted_19 (by decide) ?_
  refine lv_aload_n hx hb dX8_counted_20 rfl (lv_at hl 0 rfl) ?_
  refine gfNX8_papered hx hb h_X8 hown hK hP l_f196 dX8_counted_21 ?_
  obtain ⟨hi, hm⟩ := ok_I hm
  refine stN_30 hx hb hK hP hIq hAq hS hi dX8_counted_24 (fun H locs hP hS => ?_)
  generalize es4 : su s3 42 (upd (s3.1 42) (2 : Int32).toNatClampNeg (s3.1 4 0)) = s4 at hP
  have hm := bnd_x es4.symm hm
  refine lv_dup hx hb dX8_counted_25 rfl ?_
  refine lv_iconst (v := 3) hx hb dX8_counted_26 (by decide) ?_
  refine lv_aload_n hx hb dX8_counted_27 rfl (lv_at hl 0 rfl) ?_
  refine gfNX8_lines hx hb h_X8 hown hK hP l_f199 dX8_counted_28 ?_
  obtain ⟨hi, hm⟩ := ok_I hm
  refine stN_30 hx hb hK hP hIq hAq hS hi dX8_counted_31 (fun H locs hP hS => ?_)
  generalize es5 : su s4 42 (upd (s4.1 42) (3 : Int32).toNatClampNeg (s4.1 6 0)) = s5 at hP
  have hm := bnd_x es5.symm hm
  refine lv_dup hx hb dX8_counted_32 rfl ?_
  refine lv_iconst (v := 4) hx hb dX8_counted_33 (by decide) ?_
  refine lv_aload_n hx hb dX8_counted_34 rfl (lv_at hl 0 rfl) ?_
  refine gfNX8_boxes hx hb h_X8 hown hK hP l_f202 dX8_counted_35 ?_
  obtain ⟨hi, hm⟩ := ok_I hm
  refine stN_30 hx hb hK hP hIq hAq hS hi dX8_counted_38 (fun H locs hP hS => ?_)
  generalize es6 : su s5 42 (upd (s5.1 42) (4 : Int32).toNatClampNeg (s5.1 7 0)) = s6 at hP
  have hm := bnd_x es6.symm hm
  refine lv_dup hx hb dX8_counted_39 rfl ?_
  refine lv_iconst (v := 5) hx hb dX8_counted_40 (by decide) ?_
  refine lv_aload_n hx hb dX8_counted_41 rfl (lv_at hl 0 rfl) ?_
  obtain ⟨r7, h8, hm⟩ := ok_bind hm
  refine calV_i (As := []) (rest := [.int 5, .ref q, .ref q]) ⟨hx, hb, hml, hown, hts⟩ (kX8_open l D y a t hI _ s6 r7 h8) (cwV 0 hts (gAV aM_X8_218 aI_X8_open aS_X8_open aN_X8 aC_X8_open) rfl rfl rfl eX8_open ⟨Nat.le_of_ble_eq_true rfl, Nat.le_of_ble_eq_true rfl⟩) (preV_W (ci := 8) (q := (RX8, TX8, 42)) hK (wN_sub hP) hF hS rfl (wM_0 y a s6)) rfl hl.1 rfl (Nat.le_of_ble_eq_true rfl) dX8_counted_42 ⟨Nat.le_of_ble_eq_true rfl, Nat.le_of_ble_eq_true rfl⟩ hS (AC_le hS.1) (fun H locs hP1 hS hk1 => ?_)
  have hP := wN_join hIq hP hk1 hP1
  generalize es9 : su s6 42 (s6.1 42) = s9 at hP
  have hm := bnd_x es9.symm hm
  obtain ⟨hi, hm⟩ := ok_I hm
  refine stN_30 hx hb hK hP hIq hAq hS hi dX8_counted_45 (fun H locs hP hS => ?_)
  generalize es10 : su s9 42 (upd (s9.1 42) (5 : Int32).toNatClampNeg r7) = s10 at hP
  have hm := bnd_x es10.symm hm
  refine lv_dup hx hb dX8_counted_46 rfl ?_
  refine lv_bipush (v := 6) hx hb dX8_counted_47 (by decide) ?_
  refine lv_aload_n hx hb dX8_counted_49 rfl (lv_at hl 0 rfl) ?_
  obtain ⟨r11, h12, hm⟩ := ok_bind hm
  refine calV_i (As := []) (rest := [.int 6, .ref q, .ref q]) ⟨hx, hb, hml, hown, hts⟩ (kX8_premisesNow l D y a t hI _ s10 r11 h12) (cwV 0 hts (gAV aM_X8_211 aI_X8_premisesNow aS_X8_premisesNow aN_X8 aC_X8_premisesNow) rfl rfl rfl eX8_premisesNow ⟨Nat.le_of_ble_eq_true rfl, Nat.le_of_ble_eq_true rfl⟩) (preV_W (ci := 8) (q := (RX8, TX8, 42)) hK (wN_sub hP) hF hS rfl (wM_0 y a s10)) rfl hl.1 rfl (Nat.le_of_ble_eq_true rfl) dX8_counted_50 ⟨Nat.le_of_ble_eq_true rfl, Nat.le_of_ble_eq_true rfl⟩ hS (AC_le hS.1) (fun H locs hP1 hS hk1 => ?_)
  have hP := wN_join hIq hP hk1 hP1
  generalize es13 : su s10 42 (s10.1 42) = s13 at hP
  have hm := bnd_x es13.symm hm
  obtain ⟨hi, hm⟩ := ok_I hm
  refine stN_30 hx hb hK hP hIq hAq hS hi dX8_counted_53 (fun H locs hP hS => ?_)
  generalize es14 : su s13 42 (upd (s13.1 42) (6 : Int32).toNatClampNeg r11) = s14 at hP
  have hm := bnd_x es14.symm hm
  refine lv_dup hx hb dX8_counted_54 rfl ?_
  refine lv_bipush (v := 7) hx hb dX8_counted_55 (by decide) ?_
  refine lv_aload_n hx hb dX8_counted_57 rfl (lv_at hl 0 rfl) ?_
  refine gfNX8_theorems hx hb h_X8 hown hK hP l_f227 dX8_counted_58 ?_
  obtain ⟨hi, hm⟩ := ok_I hm
  refine stN_30 hx hb hK hP hIq hAq hS hi dX8_counted_61 (fun H locs hP hS => ?_)
  generalize es15 : su s14 42 (upd (s14.1 42) (7 : Int32).toNatClampNeg (s14.1 10 0)) = s15 at hP
  have hm := bnd_x es15.symm hm
  refine lv_dup hx hb dX8_counted_62 rfl ?_
  refine lv_bipush (v := 8) hx hb dX8_counted_63 (by decide) ?_
  refine lv_aload_n hx hb dX8_counted_65 rfl (lv_at hl 0 rfl) ?_
  obtain ⟨⟨r16, s18⟩, h17, hm⟩ := ok_bind hm
  refine calV_i (As := []) (rest := [.int 8, .ref q, .ref q]) ⟨hx, hb, hml, hown, hts⟩ (kX8_look l D y a t hI _ s15 s18 r16 h17) (cwV 0 hts (gAV aM_X8_265 aI_X8_look aS_X8_look aN_X8 aC_X8_look) rfl rfl rfl eX8_look ⟨Nat.le_of_ble_eq_true rfl, Nat.le_of_ble_eq_true rfl⟩) (preV_W (ci := 8) (q := (RX8, TX8, 42)) hK (wN_sub hP) hF hS rfl (wM_0 y a s15)) rfl hl.1 rfl (Nat.le_of_ble_eq_true rfl) dX8_counted_66 ⟨Nat.le_of_ble_eq_true rfl, Nat.le_of_ble_eq_true rfl⟩ hS (AC_le hS.1) (fun H locs hP1 hS hk1 => ?_)
  have hP := wN_join hIq hP hk1 hP1
  generalize es19 : su s18 42 (s15.1 42) = s19 at hP
  have hm := bnd_x es19.symm hm
  obtain ⟨hi, hm⟩ := ok_I hm
  refine stN_30 hx hb hK hP hIq hAq hS hi dX8_counted_69 (fun H locs hP hS => ?_)
  generalize es20 : su s19 42 (upd (s19.1 42) (8 : Int32).toNatClampNeg r16) = s20 at hP
  have hm := bnd_x es20.symm hm
  refine lv_astore_n (lv' := [(2, .ref q), (0, .ref (a 0)), (1, .int p1)]) hx hb dX8_counted_70 rfl hl (by decide) rfl (fun ls hl => ?_)
  refine lv_aload_n hx hb dX8_counted_71 rfl (lv_at hl 0 rfl) ?_
  refine lv_iload_n hx hb dX8_counted_72 rfl (lv_at hl 2 rfl) ?_
  obtain ⟨hi, hm⟩ := ok_I hm
  refine ldN_30 hx hb hK hP hi dX8_counted_73 ?_
  exact W.iret (v := s20.1 42 p1.toNatClampNeg) hx hb hr (fun T hT hW => ⟨⟨s20.1 42 p1.toNatClampNeg, s20, rfl, ⟨congrArg Prod.fst (Option.some.inj hm), congrArg Prod.snd (Option.some.inj hm)⟩, by rw [posW, hT]; exact (wN_sub hP)⟩, hS.F hT⟩) hS.2.2 dX8_counted_74
theorem eX8_count : yX8_count.cls = RX8 ∧ yX8_count.cls ≠ "java/lang/invoke/MethodHandle" ∧ yX8_count.cls ≠ "java/lang/invoke/VarHandle" ∧ (parseMethodDescriptor yX8_count.desc).map (fun d => d.parameters.length) = some 1 := by decide +kernel
def mX8_count (σ : St) (p1 : Int32) : Option (Int32 × St) :=
bnd (su σ 0 (fun _ => 0)) fun s1 =>
(mX8_isIn s1 p1 0 8).bind fun r2 =>
if r2 = 0 then (
(mX8_no s1 1).bind fun ⟨r5, s7⟩ =>
some (r5, s7))
else (
(mX8_counted s1 p1).bind fun ⟨r8, s10⟩ =>
some (r8, s10))
set_option maxHeartbeats 4000000 in
set_option maxRecDepth 100000 in
theorem kX8_count (l : Launch) (D : va_G) (y : Nat → ClassId) (a t : Nat → Nat) (hI : AI a 30) (sz : Nat) (σ τ : St) (p1 : Int32) (r : Int32) (hm : mX8_count σ p1 = some (r, τ)) : Met l yX8_count zX8_count { frames := 4, cells := 1, slots := 9, locals := 89 } (va_Pc [.ref (a 0), .int p1] (preW (wM y a) a 30 D y t σ sz)) (va_Qi (fun r' u => r' = r ∧ u = τ) (posW (wM y a) D) (AC a 30 sz)) 1 9 (AC a 30 sz) := by
  refine Met.ofW (cc := cX8_count) (maxL := 2) (ret := (some .int)) (by decide) rfl ?_
  intro p e s m args below meth c s₁ B hml hv
  obtain ⟨rfl, hsz, hP, hK, hF⟩ := hv
  have hx := B.exec
  have hb := B.bytes
  have hr := B.returns
  have hts := atoms_spec (ws := zX8_count) B.pre
  have hown : s.vm.findClass RX8 = some m.cls := findClass_of_methodNamed B.named
  have hlocks := B.notSynchronized
  subst hsz
  have l_f106 := hts _ (List.mem_cons_of_mem _ aF_X8_106)
  have h_X8 : ∀ w ∈ wsX80, w.before _ s = true := fun w hw => hts w (List.mem_cons_of_mem _ (hwX8 w hw))
  have hS : va_S (AC a 30 s.heap.size) s.heap s.heap [] := va_S.rf
  have hl := lv_entry ([.ref (a 0), .int p1]) (n := 2) (Nat.le_of_ble_eq_true rfl)
  rw [lg_entry_eq]
  generalize (lg_sl ([.ref (a 0), .int p1]) ++ List.replicate (2 - (lg_sl ([.ref (a 0), .int p1])).length) Slot.unset).toArray = ls at hl ⊢
  have hl : lv_has ls 2 [(0, .ref (a 0)), (1, .int p1)] := hl
  unfold mX8_count at hm
  refine lv_aload_n hx hb dX8_count_0 rfl (lv_at hl 0 rfl) ?_
  refine lv_iconst (v := 0) hx hb dX8_count_1 (by decide) ?_
  refine pfX8_thrown hx hb h_X8 hown hK hP hI AC_in hS l_f106 dX8_count_2 (fun H locs hP hS => ?_)
  generalize es1 : su σ 0 (fun _ => 0) = s1 at hP
  have hm := bnd_x es1.symm hm
  refine lv_iload_n hx hb dX8_count_5 rfl (lv_at hl 1 rfl) ?_
  refine lv_iconst (v := 0) hx hb dX8_count_6 (by decide) ?_
  refine lv_bipush (v := 8) hx hb dX8_count_7 (by decide) ?_
  obtain ⟨r2, h3, hm⟩ := ok_bind hm
  refine calS_i (As := [.int p1, .int 0, .int 8]) (rest := []) ⟨hx, hb, hml, hown, hts⟩ (kX8_isIn l D y a t hI _ s1 p1 0 8 r2 h3) (va_cwS 3 hts (gAS aM_X8_112 aT_X8_isIn aN_X8 aC_X8_isIn) rfl rfl rfl eX8_isIn ⟨Nat.le_of_ble_eq_true rfl, Nat.le_of_ble_eq_true rfl⟩) (preS_W hK hP hF hS) rfl hl.1 rfl (Nat.le_of_ble_eq_true rfl) dX8_count_9 ⟨Nat.zero_le _, Nat.zero_le _⟩ hS (AC_le hS.1) (fun H locs hP hS hk1 => ?_)
  refine lv_if_eq (tgt := 23) hx hb dX8_count_12 (by decide) (fun c4 => ?_) (fun c4 => ?_)
  · have hm := (if_pos c4).symm.trans hm
    refine lv_aload_n hx hb dX8_count_23 rfl (lv_at hl 0 rfl) ?_
    refine lv_iconst (v := 1) hx hb dX8_count_24 (by decide) ?_
    obtain ⟨⟨r5, s7⟩, h6, hm⟩ := ok_bind hm
    refine calV_i (As := [.int 1]) (rest := []) ⟨hx, hb, hml, hown, hts⟩ (kX8_no l D y a t hI _ s1 s7 1 r5 h6) (cwV 1 hts (gAV aM_X8_119 aI_X8_no aS_X8_no aN_X8 aC_X8_no) rfl rfl rfl eX8_no ⟨Nat.le_of_ble_eq_true rfl, Nat.le_of_ble_eq_true rfl⟩) (preV_W (ci := 8) (q := (RX8, TX8, 42)) hK hP hF hS rfl (wM_0 y a s1)) rfl hl.1 rfl (Nat.le_of_ble_eq_true rfl) dX8_count_25 ⟨Nat.zero_le _, Nat.zero_le _⟩ hS (AC_le hS.1) (fun H locs hP hS hk1 => ?_)
    refine W.widen (k := 1) (n := 9) (by omega) (by omega) ?_
    exact W.iret (v := r5) hx hb hr (fun T hT hW => ⟨⟨r5, s7, rfl, ⟨congrArg Prod.fst (Option.some.inj hm), congrArg Prod.snd (Option.some.inj hm)⟩, by rw [posW, hT]; exact hP⟩, hS.F hT⟩) hS.2.2 dX8_count_28
  · have hm := (if_neg c4).symm.trans hm
    refine lv_aload_n hx hb dX8_count_15 rfl (lv_at hl 0 rfl) ?_
    refine lv_iload_n hx hb dX8_count_16 rfl (lv_at hl 1 rfl) ?_
    obtain ⟨⟨r8, s10⟩, h9, hm⟩ := ok_bind hm
    refine calV_iA (As := [.int p1]) (rest := []) ⟨hx, hb, hml, hown, hts⟩ (kX8_counted l D y a t hI _ s1 s10 p1 r8 h9) (cwV 1 hts (gAV aM_X8_268 aI_X8_counted aS_X8_counted aN_X8 aC_X8_counted) rfl rfl rfl eX8_counted ⟨Nat.le_of_ble_eq_true rfl, Nat.le_of_ble_eq_true rfl⟩) (preV_W (ci := 8) (q := (RX8, TX8, 42)) hK hP hF hS rfl (wM_0 y a s1)) rfl hl.1 rfl (Nat.le_of_ble_eq_true rfl) dX8_count_17 ⟨Nat.le_of_ble_eq_true rfl, Nat.le_of_ble_eq_true rfl⟩ hS (AC_le hS.1) (fun H locs hP hS hk1 => ?_)
    refine W.widen (k := 1) (n := 9) (by omega) (by omega) ?_
    refine lv_goto (tgt := 28) hx hb dX8_count_20 (by decide) ?_
    exact W.iret (v := r8) hx hb hr (fun T hT hW => ⟨⟨r8, s10, rfl, ⟨congrArg Prod.fst (Option.some.inj hm), congrArg Prod.snd (Option.some.inj hm)⟩, by rw [posW, hT]; exact hP⟩, hS.F hT⟩) hS.2.2 dX8_count_28
theorem eX8_lineTold : yX8_lineTold.cls = RX8 ∧ yX8_lineTold.cls ≠ "java/lang/invoke/MethodHandle" ∧ yX8_lineTold.cls ≠ "java/lang/invoke/VarHandle" ∧ (parseMethodDescriptor yX8_lineTold.desc).map (fun d => d.parameters.length) = some 2 := by decide +kernel
def mX8_lineTold (σ : St) (p1 : Int32) (p2 : Int32) : Option (Int32 × St) :=
if 2 ≤ p2 then (
if 5 ≤ p2 then (
if p2 = 5 then (
chkI p1 60 (
some (σ.1 24 p1.toNatClampNeg, σ)))
else (
if p2 = 6 then (
(mX8_isLine σ p1).bind fun r9 =>
if r9 = 0 then (
some (0, σ))
else (
some (1, σ)))
else (
(mX8_look σ).bind fun ⟨r5, s7⟩ =>
chkI p1 60 (
if (s7.1 40 p1.toNatClampNeg) = 0 then (
some (0, s7))
else (
some (1, s7))))))
else (
chkI (((3 * p1) + p2) - 2) 180 (
some (σ.1 23 (((3 * p1) + p2) - 2).toNatClampNeg, σ))))
else (
if p2 = 0 then (
chkI p1 60 (
some (σ.1 21 p1.toNatClampNeg, σ)))
else (
chkI p1 60 (
some (σ.1 22 p1.toNatClampNeg, σ))))
set_option maxHeartbeats 4000000 in
set_option maxRecDepth 100000 in
theorem kX8_lineTold (l : Launch) (D : va_G) (y : Nat → ClassId) (a t : Nat → Nat) (hI : AI a 30) (sz : Nat) (σ τ : St) (p1 : Int32) (p2 : Int32) (r : Int32) (hm : mX8_lineTold σ p1 p2 = some (r, τ)) : Met l yX8_lineTold zX8_lineTold { frames := 3, cells := 0, slots := 0, locals := 67 } (va_Pc [.ref (a 0), .int p1, .int p2] (preW (wM y a) a 30 D y t σ sz)) (va_Qi (fun r' u => r' = r ∧ u = τ) (posW (wM y a) D) (AC a 30 sz)) 0 0 (AC a 30 sz) := by
  refine Met.ofW (cc := cX8_lineTold) (maxL := 3) (ret := (some .int)) (by decide) rfl ?_
  intro p e s m args below meth c s₁ B hml hv
  obtain ⟨rfl, hsz, hP, hK, hF⟩ := hv
  have hx := B.exec
  have hb := B.bytes
  have hr := B.returns
  have hts := atoms_spec (ws := zX8_lineTold) B.pre
  have hown : s.vm.findClass RX8 = some m.cls := findClass_of_methodNamed B.named
  have hlocks := B.notSynchronized
  subst hsz
  have l_f100 := hts _ (List.mem_cons_of_mem _ aF_X8_100)
  have l_f49 := hts _ (List.mem_cons_of_mem _ aF_X8_49)
  have l_f46 := hts _ (List.mem_cons_of_mem _ aF_X8_46)
  have l_f43 := hts _ (List.mem_cons_of_mem _ aF_X8_43)
  have l_f40 := hts _ (List.mem_cons_of_mem _ aF_X8_40)
  have h_X8 : ∀ w ∈ wsX80, w.before _ s = true := fun w hw => hts w (List.mem_cons_of_mem _ (hwX8 w hw))
  have hS : va_S (AC a 30 s.heap.size) s.heap s.heap [] := va_S.rf
  have hl := lv_entry ([.ref (a 0), .int p1, .int p2]) (n := 3) (Nat.le_of_ble_eq_true rfl)
  rw [lg_entry_eq]
  generalize (lg_sl ([.ref (a 0), .int p1, .int p2]) ++ List.replicate (3 - (lg_sl ([.ref (a 0), .int p1, .int p2])).length) Slot.unset).toArray = ls at hl ⊢
  have hl : lv_has ls 3 [(0, .ref (a 0)), (1, .int p1), (2, .int p2)] := hl
  unfold mX8_lineTold at hm
  refine lv_iload_n hx hb dX8_lineTold_0 rfl (lv_at hl 2 rfl) ?_
  refine lv_iconst (v := 2) hx hb dX8_lineTold_1 (by decide) ?_
  refine lv_icmp_ge (tgt := 25) hx hb dX8_lineTold_2 (by decide) (fun c1 => ?_) (fun c1 => ?_)
  · have hm := (if_pos c1).symm.trans hm
    refine lv_iload_n hx hb dX8_lineTold_25 rfl (lv_at hl 2 rfl) ?_
    refine lv_iconst (v := 5) hx hb dX8_lineTold_26 (by decide) ?_
    refine lv_icmp_ge (tgt := 43) hx hb dX8_lineTold_27 (by decide) (fun c2 => ?_) (fun c2 => ?_)
    · have hm := (if_pos c2).symm.trans hm
      refine lv_iload_n hx hb dX8_lineTold_43 rfl (lv_at hl 2 rfl) ?_
      refine lv_iconst (v := 5) hx hb dX8_lineTold_44 (by decide) ?_
      refine lv_icmp_ne (tgt := 55) hx hb dX8_lineTold_45 (by decide) (fun c3 => ?_) (fun c3 => ?_)
      · have hm := (if_neg c3).symm.trans hm
        refine lv_iload_n hx hb dX8_lineTold_55 rfl (lv_at hl 2 rfl) ?_
        refine lv_bipush (v := 6) hx hb dX8_lineTold_56 (by decide) ?_
        refine lv_icmp_ne (tgt := 75) hx hb dX8_lineTold_58 (by decide) (fun c4 => ?_) (fun c4 => ?_)
        · have hm := (if_neg c4).symm.trans hm
          refine lv_aload_n hx hb dX8_lineTold_75 rfl (lv_at hl 0 rfl) ?_
          obtain ⟨⟨r5, s7⟩, h6, hm⟩ := ok_bind hm
          refine calV_i (As := []) (rest := []) ⟨hx, hb, hml, hown, hts⟩ (kX8_look l D y a t hI _ σ s7 r5 h6) (cwV 0 hts (gAV aM_X8_265 aI_X8_look aS_X8_look aN_X8 aC_X8_look) rfl rfl rfl eX8_look ⟨Nat.le_of_ble_eq_true rfl, Nat.le_of_ble_eq_true rfl⟩) (preV_W (ci := 8) (q := (RX8, TX8, 42)) hK hP hF hS rfl (wM_0 y a σ)) rfl hl.1 rfl (Nat.le_of_ble_eq_true rfl) dX8_lineTold_76 ⟨Nat.zero_le _, Nat.zero_le _⟩ hS (AC_le hS.1) (fun H locs hP hS hk1 => ?_)
          refine lv_pop hx hb dX8_lineTold_79 rfl ?_
          refine lv_aload_n hx hb dX8_lineTold_80 rfl (lv_at hl 0 rfl) ?_
          refine gfX8_areNeeded hx hb h_X8 hown hK hP l_f100 dX8_lineTold_81 ?_
          refine lv_iload_n hx hb dX8_lineTold_84 rfl (lv_at hl 1 rfl) ?_
          obtain ⟨hi, hm⟩ := ok_I hm
          refine ldM_28 hx hb hK hP hi dX8_lineTold_85 ?_
          refine lv_if_eq (tgt := 93) hx hb dX8_lineTold_86 (by decide) (fun c8 => ?_) (fun c8 => ?_)
          · have hm := (if_pos c8).symm.trans hm
            refine lv_iconst (v := 0) hx hb dX8_lineTold_93 (by decide) ?_
            exact W.iret (v := 0) hx hb hr (fun T hT hW => ⟨⟨0, s7, rfl, ⟨congrArg Prod.fst (Option.some.inj hm), congrArg Prod.snd (Option.some.inj hm)⟩, by rw [posW, hT]; exact hP⟩, hS.F hT⟩) hS.2.2 dX8_lineTold_94
          · have hm := (if_neg c8).symm.trans hm
            refine lv_iconst (v := 1) hx hb dX8_lineTold_89 (by decide) ?_
            refine lv_goto (tgt := 94) hx hb dX8_lineTold_90 (by decide) ?_
            exact W.iret (v := 1) hx hb hr (fun T hT hW => ⟨⟨1, s7, rfl, ⟨congrArg Prod.fst (Option.some.inj hm), congrArg Prod.snd (Option.some.inj hm)⟩, by rw [posW, hT]; exact hP⟩, hS.F hT⟩) hS.2.2 dX8_lineTold_94
        · have hm := (if_pos c4).symm.trans hm
          refine lv_aload_n hx hb dX8_lineTold_61 rfl (lv_at hl 0 rfl) ?_
          refine lv_iload_n hx hb dX8_lineTold_62 rfl (lv_at hl 1 rfl) ?_
          obtain ⟨r9, h10, hm⟩ := ok_bind hm
          refine calV_i (As := [.int p1]) (rest := []) ⟨hx, hb, hml, hown, hts⟩ (kX8_isLine l D y a t hI _ σ p1 r9 h10) (cwV 1 hts (gAV aM_X8_230 aI_X8_isLine aS_X8_isLine aN_X8 aC_X8_isLine) rfl rfl rfl eX8_isLine ⟨Nat.le_of_ble_eq_true rfl, Nat.le_of_ble_eq_true rfl⟩) (preV_W (ci := 8) (q := (RX8, TX8, 42)) hK hP hF hS rfl (wM_0 y a σ)) rfl hl.1 rfl (Nat.le_of_ble_eq_true rfl) dX8_lineTold_63 ⟨Nat.zero_le _, Nat.zero_le _⟩ hS (AC_le hS.1) (fun H locs hP hS hk1 => ?_)
          refine lv_if_eq (tgt := 73) hx hb dX8_lineTold_66 (by decide) (fun c11 => ?_) (fun c11 => ?_)
          · have hm := (if_pos c11).symm.trans hm
            refine lv_iconst (v := 0) hx hb dX8_lineTold_73 (by decide) ?_
            exact W.iret (v := 0) hx hb hr (fun T hT hW => ⟨⟨0, σ, rfl, ⟨congrArg Prod.fst (Option.some.inj hm), congrArg Prod.snd (Option.some.inj hm)⟩, by rw [posW, hT]; exact hP⟩, hS.F hT⟩) hS.2.2 dX8_lineTold_74
          · have hm := (if_neg c11).symm.trans hm
            refine lv_iconst (v := 1) hx hb dX8_lineTold_69 (by decide) ?_
            refine lv_goto (tgt := 74) hx hb dX8_lineTold_70 (by decide) ?_
            exact W.iret (v := 1) hx hb hr (fun T hT hW => ⟨⟨1, σ, rfl, ⟨congrArg Prod.fst (Option.some.inj hm), congrArg Prod.snd (Option.some.inj hm)⟩, by rw [posW, hT]; exact hP⟩, hS.F hT⟩) hS.2.2 dX8_lineTold_74
      · have hm := (if_pos c3).symm.trans hm
        refine lv_aload_n hx hb dX8_lineTold_48 rfl (lv_at hl 0 rfl) ?_
        refine gfX8_boxOf hx hb h_X8 hown hK hP l_f49 dX8_lineTold_49 ?_
        refine lv_iload_n hx hb dX8_lineTold_52 rfl (lv_at hl 1 rfl) ?_
        obtain ⟨hi, hm⟩ := ok_I hm
        refine ldM_12 hx hb hK hP hi dX8_lineTold_53 ?_
        exact W.iret (v := σ.1 24 p1.toNatClampNeg) hx hb hr (fun T hT hW => ⟨⟨σ.1 24 p1.toNatClampNeg, σ, rfl, ⟨congrArg Prod.fst (Option.some.inj hm), congrArg Prod.snd (Option.some.inj hm)⟩, by rw [posW, hT]; exact hP⟩, hS.F hT⟩) hS.2.2 dX8_lineTold_54
    · have hm := (if_neg c2).symm.trans hm
      refine lv_aload_n hx hb dX8_lineTold_30 rfl (lv_at hl 0 rfl) ?_
      refine gfX8_references hx hb h_X8 hown hK hP l_f46 dX8_lineTold_31 ?_
      refine lv_iconst (v := 3) hx hb dX8_lineTold_34 (by decide) ?_
      refine lv_iload_n hx hb dX8_lineTold_35 rfl (lv_at hl 1 rfl) ?_
      refine lv_imul hx hb dX8_lineTold_36 ?_
      refine lv_iload_n hx hb dX8_lineTold_37 rfl (lv_at hl 2 rfl) ?_
      refine lv_iadd hx hb dX8_lineTold_38 ?_
      refine lv_iconst (v := 2) hx hb dX8_lineTold_39 (by decide) ?_
      refine lv_isub hx hb dX8_lineTold_40 ?_
      obtain ⟨hi, hm⟩ := ok_I hm
      refine ldM_11 hx hb hK hP hi dX8_lineTold_41 ?_
      exact W.iret (v := σ.1 23 (((3 * p1) + p2) - 2).toNatClampNeg) hx hb hr (fun T hT hW => ⟨⟨σ.1 23 (((3 * p1) + p2) - 2).toNatClampNeg, σ, rfl, ⟨congrArg Prod.fst (Option.some.inj hm), congrArg Prod.snd (Option.some.inj hm)⟩, by rw [posW, hT]; exact hP⟩, hS.F hT⟩) hS.2.2 dX8_lineTold_42
  · have hm := (if_neg c1).symm.trans hm
    refine lv_iload_n hx hb dX8_lineTold_5 rfl (lv_at hl 2 rfl) ?_
    refine lv_if_ne (tgt := 18) hx hb dX8_lineTold_6 (by decide) (fun c12 => ?_) (fun c12 => ?_)
    · have hm := (if_neg c12).symm.trans hm
      refine lv_aload_n hx hb dX8_lineTold_18 rfl (lv_at hl 0 rfl) ?_
      refine gfX8_rules hx hb h_X8 hown hK hP l_f43 dX8_lineTold_19 ?_
      refine lv_iload_n hx hb dX8_lineTold_22 rfl (lv_at hl 1 rfl) ?_
      obtain ⟨hi, hm⟩ := ok_I hm
      refine ldM_10 hx hb hK hP hi dX8_lineTold_23 ?_
      exact W.iret (v := σ.1 22 p1.toNatClampNeg) hx hb hr (fun T hT hW => ⟨⟨σ.1 22 p1.toNatClampNeg, σ, rfl, ⟨congrArg Prod.fst (Option.some.inj hm), congrArg Prod.snd (Option.some.inj hm)⟩, by rw [posW, hT]; exact hP⟩, hS.F hT⟩) hS.2.2 dX8_lineTold_24
    · have hm := (if_pos c12).symm.trans hm
      refine lv_aload_n hx hb dX8_lineTold_9 rfl (lv_at hl 0 rfl) ?_
      refine gfX8_shown hx hb h_X8 hown hK hP l_f40 dX8_lineTold_10 ?_
      refine lv_iload_n hx hb dX8_lineTold_13 rfl (lv_at hl 1 rfl) ?_
      obtain ⟨hi, hm⟩ := ok_I hm
      refine ldM_9 hx hb hK hP hi dX8_lineTold_14 ?_
      refine lv_goto (tgt := 24) hx hb dX8_lineTold_15 (by decide) ?_
      exact W.iret (v := σ.1 21 p1.toNatClampNeg) hx hb hr (fun T hT hW => ⟨⟨σ.1 21 p1.toNatClampNeg, σ, rfl, ⟨congrArg Prod.fst (Option.some.inj hm), congrArg Prod.snd (Option.some.inj hm)⟩, by rw [posW, hT]; exact hP⟩, hS.F hT⟩) hS.2.2 dX8_lineTold_24
theorem eX8_line : yX8_line.cls = RX8 ∧ yX8_line.cls ≠ "java/lang/invoke/MethodHandle" ∧ yX8_line.cls ≠ "java/lang/invoke/VarHandle" ∧ (parseMethodDescriptor yX8_line.desc).map (fun d => d.parameters.length) = some 2 := by decide +kernel
def mX8_line_38 (s1 : St) : Option (Int32 × St) :=
(mX8_no s1 1).bind fun ⟨r2, s4⟩ =>
some (r2, s4)
def mX8_line (σ : St) (p1 : Int32) (p2 : Int32) : Option (Int32 × St) :=
bnd (su σ 0 (fun _ => 0)) fun s5 =>
(mX8_isIn s5 p1 0 ((s5.1 6 0) - 1)).bind fun r6 =>
if r6 = 0 then (
mX8_line_38 s5)
else (
(mX8_isIn s5 p2 0 7).bind fun r9 =>
if r9 = 0 then (
mX8_line_38 s5)
else (
(mX8_lineTold s5 p1 p2).bind fun ⟨r12, s14⟩ =>
some (r12, s14)))
set_option maxHeartbeats 4000000 in
set_option maxRecDepth 100000 in
theorem kX8_line (l : Launch) (D : va_G) (y : Nat → ClassId) (a t : Nat → Nat) (hI : AI a 30) (sz : Nat) (σ τ : St) (p1 : Int32) (p2 : Int32) (r : Int32) (hm : mX8_line σ p1 p2 = some (r, τ)) : Met l yX8_line zX8_line { frames := 4, cells := 0, slots := 0, locals := 89 } (va_Pc [.ref (a 0), .int p1, .int p2] (preW (wM y a) a 30 D y t σ sz)) (va_Qi (fun r' u => r' = r ∧ u = τ) (posW (wM y a) D) (AC a 30 sz)) 0 0 (AC a 30 sz) := by
  refine Met.ofW (cc := cX8_line) (maxL := 3) (ret := (some .int)) (by decide) rfl ?_
  intro p e s m args below meth c s₁ B hml hv
  obtain ⟨rfl, hsz, hP, hK, hF⟩ := hv
  have hx := B.exec
  have hb := B.bytes
  have hr := B.returns
  have hts := atoms_spec (ws := zX8_line) B.pre
  have hown : s.vm.findClass RX8 = some m.cls := findClass_of_methodNamed B.named
  have hlocks := B.notSynchronized
  subst hsz
  have l_f106 := hts _ (List.mem_cons_of_mem _ aF_X8_106)
  have l_f199 := hts _ (List.mem_cons_of_mem _ aF_X8_199)
  have h_X8 : ∀ w ∈ wsX80, w.before _ s = true := fun w hw => hts w (List.mem_cons_of_mem _ (hwX8 w hw))
  have hS : va_S (AC a 30 s.heap.size) s.heap s.heap [] := va_S.rf
  have hl := lv_entry ([.ref (a 0), .int p1, .int p2]) (n := 3) (Nat.le_of_ble_eq_true rfl)
  rw [lg_entry_eq]
  generalize (lg_sl ([.ref (a 0), .int p1, .int p2]) ++ List.replicate (3 - (lg_sl ([.ref (a 0), .int p1, .int p2])).length) Slot.unset).toArray = ls at hl ⊢
  have hl : lv_has ls 3 [(0, .ref (a 0)), (1, .int p1), (2, .int p2)] := hl
  have L_38 : ∀ (s1 : St) (H : Heap) (locs : List Loc) (ls : Array Slot), va_P D vwCl (wM y a s1) H → va_S (AC a 30 s.heap.size) s.heap H locs → lv_has ls 3 [(0, .ref (a 0))] → mX8_line_38 s1 = some (r, τ) → W p l e (headSpec zX8_line ({ frames := 4, cells := 0, slots := 0, locals := 89 })).room s m ([.ref (a 0), .int p1, .int p2] : List Value).toArray below meth c H locs 0 0 (MQ below (va_Qi (fun r' u => r' = r ∧ u = τ) (posW (wM y a) D) (AC a 30 s.heap.size)) ([.ref (a 0), .int p1, .int p2] : List Value).toArray s 0 0 (AC a 30 s.heap.size)) (F0 m 38 ls []) := by
    intro s1 H locs ls hP hS hl hm
    unfold mX8_line_38 at hm
    refine lv_aload_n hx hb dX8_line_38 rfl (lv_at hl 0 rfl) ?_
    refine lv_iconst (v := 1) hx hb dX8_line_39 (by decide) ?_
    obtain ⟨⟨r2, s4⟩, h3, hm⟩ := ok_bind hm
    refine calV_i (As := [.int 1]) (rest := []) ⟨hx, hb, hml, hown, hts⟩ (kX8_no l D y a t hI _ s1 s4 1 r2 h3) (cwV 1 hts (gAV aM_X8_119 aI_X8_no aS_X8_no aN_X8 aC_X8_no) rfl rfl rfl eX8_no ⟨Nat.le_of_ble_eq_true rfl, Nat.le_of_ble_eq_true rfl⟩) (preV_W (ci := 8) (q := (RX8, TX8, 42)) hK hP hF hS rfl (wM_0 y a s1)) rfl hl.1 rfl (Nat.le_of_ble_eq_true rfl) dX8_line_40 ⟨Nat.zero_le _, Nat.zero_le _⟩ hS (AC_le hS.1) (fun H locs hP hS hk1 => ?_)
    exact W.iret (v := r2) hx hb hr (fun T hT hW => ⟨⟨r2, s4, rfl, ⟨congrArg Prod.fst (Option.some.inj hm), congrArg Prod.snd (Option.some.inj hm)⟩, by rw [posW, hT]; exact hP⟩, hS.F hT⟩) hS.2.2 dX8_line_43
  unfold mX8_line at hm
  refine lv_aload_n hx hb dX8_line_0 rfl (lv_at hl 0 rfl) ?_
  refine lv_iconst (v := 0) hx hb dX8_line_1 (by decide) ?_
  refine pfX8_thrown hx hb h_X8 hown hK hP hI AC_in hS l_f106 dX8_line_2 (fun H locs hP hS => ?_)
  generalize es5 : su σ 0 (fun _ => 0) = s5 at hP
  have hm := bnd_x es5.symm hm
  refine lv_iload_n hx hb dX8_line_5 rfl (lv_at hl 1 rfl) ?_
  refine lv_iconst (v := 0) hx hb dX8_line_6 (by decide) ?_
  refine lv_aload_n hx hb dX8_line_7 rfl (lv_at hl 0 rfl) ?_
  refine gfX8_lines hx hb h_X8 hown hK hP l_f199 dX8_line_8 ?_
  refine lv_iconst (v := 1) hx hb dX8_line_11 (by decide) ?_
  refine lv_isub hx hb dX8_line_12 ?_
  obtain ⟨r6, h7, hm⟩ := ok_bind hm
  refine calS_i (As := [.int p1, .int 0, .int ((s5.1 6 0) - 1)]) (rest := []) ⟨hx, hb, hml, hown, hts⟩ (kX8_isIn l D y a t hI _ s5 p1 0 ((s5.1 6 0) - 1) r6 h7) (va_cwS 3 hts (gAS aM_X8_112 aT_X8_isIn aN_X8 aC_X8_isIn) rfl rfl rfl eX8_isIn ⟨Nat.le_of_ble_eq_true rfl, Nat.le_of_ble_eq_true rfl⟩) (preS_W hK hP hF hS) rfl hl.1 rfl (Nat.le_of_ble_eq_true rfl) dX8_line_13 ⟨Nat.zero_le _, Nat.zero_le _⟩ hS (AC_le hS.1) (fun H locs hP hS hk1 => ?_)
  refine lv_if_eq (tgt := 38) hx hb dX8_line_16 (by decide) (fun c8 => ?_) (fun c8 => ?_)
  · have hm := (if_pos c8).symm.trans hm
    exact L_38 s5 _ _ _ hP hS (lv_sub hl [0] rfl) hm
  · have hm := (if_neg c8).symm.trans hm
    refine lv_iload_n hx hb dX8_line_19 rfl (lv_at hl 2 rfl) ?_
    refine lv_iconst (v := 0) hx hb dX8_line_20 (by decide) ?_
    refine lv_bipush (v := 7) hx hb dX8_line_21 (by decide) ?_
    obtain ⟨r9, h10, hm⟩ := ok_bind hm
    refine calS_i (As := [.int p2, .int 0, .int 7]) (rest := []) ⟨hx, hb, hml, hown, hts⟩ (kX8_isIn l D y a t hI _ s5 p2 0 7 r9 h10) (va_cwS 3 hts (gAS aM_X8_112 aT_X8_isIn aN_X8 aC_X8_isIn) rfl rfl rfl eX8_isIn ⟨Nat.le_of_ble_eq_true rfl, Nat.le_of_ble_eq_true rfl⟩) (preS_W hK hP hF hS) rfl hl.1 rfl (Nat.le_of_ble_eq_true rfl) dX8_line_23 ⟨Nat.zero_le _, Nat.zero_le _⟩ hS (AC_le hS.1) (fun H locs hP hS hk1 => ?_)
    refine lv_if_eq (tgt := 38) hx hb dX8_line_26 (by decide) (fun c11 => ?_) (fun c11 => ?_)
    · have hm := (if_pos c11).symm.trans hm
      exact L_38 s5 _ _ _ hP hS (lv_sub hl [0] rfl) hm
    · have hm := (if_neg c11).symm.trans hm
      refine lv_aload_n hx hb dX8_line_29 rfl (lv_at hl 0 rfl) ?_
      refine lv_iload_n hx hb dX8_line_30 rfl (lv_at hl 1 rfl) ?_
      refine lv_iload_n hx hb dX8_line_31 rfl (lv_at hl 2 rfl) ?_
      obtain ⟨⟨r12, s14⟩, h13, hm⟩ := ok_bind hm
      refine calV_i (As := [.int p1, .int p2]) (rest := []) ⟨hx, hb, hml, hown, hts⟩ (kX8_lineTold l D y a t hI _ s5 s14 p1 p2 r12 h13) (cwV 2 hts (gAV aM_X8_271 aI_X8_lineTold aS_X8_lineTold aN_X8 aC_X8_lineTold) rfl rfl rfl eX8_lineTold ⟨Nat.le_of_ble_eq_true rfl, Nat.le_of_ble_eq_true rfl⟩) (preV_W (ci := 8) (q := (RX8, TX8, 42)) hK hP hF hS rfl (wM_0 y a s5)) rfl hl.1 rfl (Nat.le_of_ble_eq_true rfl) dX8_line_32 ⟨Nat.zero_le _, Nat.zero_le _⟩ hS (AC_le hS.1) (fun H locs hP hS hk1 => ?_)
      refine lv_goto (tgt := 43) hx hb dX8_line_35 (by decide) ?_
      exact W.iret (v := r12) hx hb hr (fun T hT hW => ⟨⟨r12, s14, rfl, ⟨congrArg Prod.fst (Option.some.inj hm), congrArg Prod.snd (Option.some.inj hm)⟩, by rw [posW, hT]; exact hP⟩, hS.F hT⟩) hS.2.2 dX8_line_43
theorem eX8_boxTold : yX8_boxTold.cls = RX8 ∧ yX8_boxTold.cls ≠ "java/lang/invoke/MethodHandle" ∧ yX8_boxTold.cls ≠ "java/lang/invoke/VarHandle" ∧ (parseMethodDescriptor yX8_boxTold.desc).map (fun d => d.parameters.length) = some 2 := by decide +kernel
def mX8_boxTold (σ : St) (p1 : Int32) (p2 : Int32) : Option Int32 :=
if p2 = 0 then (
chkI p1 60 (
some (σ.1 25 p1.toNatClampNeg)))
else (
if p2 = 1 then (
chkI p1 60 (
some (σ.1 26 p1.toNatClampNeg)))
else (
if p2 = 2 then (
chkI p1 60 (
some (σ.1 27 p1.toNatClampNeg)))
else (
(mX8_isBox σ p1).bind fun r4 =>
if r4 = 0 then (
some 0)
else (
some 1))))
set_option maxHeartbeats 4000000 in
set_option maxRecDepth 100000 in
theorem kX8_boxTold (l : Launch) (D : va_G) (y : Nat → ClassId) (a t : Nat → Nat) (hI : AI a 30) (sz : Nat) (σ : St) (p1 : Int32) (p2 : Int32) (r : Int32) (hm : mX8_boxTold σ p1 p2 = some r) : Met l yX8_boxTold zX8_boxTold { frames := 2, cells := 0, slots := 0, locals := 43 } (va_Pc [.ref (a 0), .int p1, .int p2] (preW (wM y a) a 30 D y t σ sz)) (va_Qi (fun r' u => r' = r ∧ u = σ) (posW (wM y a) D) (AC a 30 sz)) 0 0 (AC a 30 sz) := by
  refine Met.ofW (cc := cX8_boxTold) (maxL := 3) (ret := (some .int)) (by decide) rfl ?_
  intro p e s m args below meth c s₁ B hml hv
  obtain ⟨rfl, hsz, hP, hK, hF⟩ := hv
  have hx := B.exec
  have hb := B.bytes
  have hr := B.returns
  have hts := atoms_spec (ws := zX8_boxTold) B.pre
  have hown : s.vm.findClass RX8 = some m.cls := findClass_of_methodNamed B.named
  have hlocks := B.notSynchronized
  subst hsz
  have l_f58 := hts _ (List.mem_cons_of_mem _ aF_X8_58)
  have l_f55 := hts _ (List.mem_cons_of_mem _ aF_X8_55)
  have l_f52 := hts _ (List.mem_cons_of_mem _ aF_X8_52)
  have h_X8 : ∀ w ∈ wsX80, w.before _ s = true := fun w hw => hts w (List.mem_cons_of_mem _ (hwX8 w hw))
  have hS : va_S (AC a 30 s.heap.size) s.heap s.heap [] := va_S.rf
  have hl := lv_entry ([.ref (a 0), .int p1, .int p2]) (n := 3) (Nat.le_of_ble_eq_true rfl)
  rw [lg_entry_eq]
  generalize (lg_sl ([.ref (a 0), .int p1, .int p2]) ++ List.replicate (3 - (lg_sl ([.ref (a 0), .int p1, .int p2])).length) Slot.unset).toArray = ls at hl ⊢
  have hl : lv_has ls 3 [(0, .ref (a 0)), (1, .int p1), (2, .int p2)] := hl
  unfold mX8_boxTold at hm
  refine lv_iload_n hx hb dX8_boxTold_0 rfl (lv_at hl 2 rfl) ?_
  refine lv_if_ne (tgt := 13) hx hb dX8_boxTold_1 (by decide) (fun c1 => ?_) (fun c1 => ?_)
  · have hm := (if_neg c1).symm.trans hm
    refine lv_iload_n hx hb dX8_boxTold_13 rfl (lv_at hl 2 rfl) ?_
    refine lv_iconst (v := 1) hx hb dX8_boxTold_14 (by decide) ?_
    refine lv_icmp_ne (tgt := 27) hx hb dX8_boxTold_15 (by decide) (fun c2 => ?_) (fun c2 => ?_)
    · have hm := (if_neg c2).symm.trans hm
      refine lv_iload_n hx hb dX8_boxTold_27 rfl (lv_at hl 2 rfl) ?_
      refine lv_iconst (v := 2) hx hb dX8_boxTold_28 (by decide) ?_
      refine lv_icmp_ne (tgt := 41) hx hb dX8_boxTold_29 (by decide) (fun c3 => ?_) (fun c3 => ?_)
      · have hm := (if_neg c3).symm.trans hm
        refine lv_aload_n hx hb dX8_boxTold_41 rfl (lv_at hl 0 rfl) ?_
        refine lv_iload_n hx hb dX8_boxTold_42 rfl (lv_at hl 1 rfl) ?_
        obtain ⟨r4, h5, hm⟩ := ok_bind hm
        refine calV_i (As := [.int p1]) (rest := []) ⟨hx, hb, hml, hown, hts⟩ (kX8_isBox l D y a t hI _ σ p1 r4 h5) (cwV 1 hts (gAV aM_X8_233 aI_X8_isBox aS_X8_isBox aN_X8 aC_X8_isBox) rfl rfl rfl eX8_isBox ⟨Nat.le_of_ble_eq_true rfl, Nat.le_of_ble_eq_true rfl⟩) (preV_W (ci := 8) (q := (RX8, TX8, 42)) hK hP hF hS rfl (wM_0 y a σ)) rfl hl.1 rfl (Nat.le_of_ble_eq_true rfl) dX8_boxTold_43 ⟨Nat.zero_le _, Nat.zero_le _⟩ hS (AC_le hS.1) (fun H locs hP hS hk1 => ?_)
        refine lv_if_eq (tgt := 53) hx hb dX8_boxTold_46 (by decide) (fun c6 => ?_) (fun c6 => ?_)
        · have hm := (if_pos c6).symm.trans hm
          refine lv_iconst (v := 0) hx hb dX8_boxTold_53 (by decide) ?_
          exact W.iret (v := 0) hx hb hr (fun T hT hW => ⟨⟨0, σ, rfl, ⟨Option.some.inj hm, rfl⟩, by rw [posW, hT]; exact hP⟩, hS.F hT⟩) hS.2.2 dX8_boxTold_54
        · have hm := (if_neg c6).symm.trans hm
          refine lv_iconst (v := 1) hx hb dX8_boxTold_49 (by decide) ?_
          refine lv_goto (tgt := 54) hx hb dX8_boxTold_50 (by decide) ?_
          exact W.iret (v := 1) hx hb hr (fun T hT hW => ⟨⟨1, σ, rfl, ⟨Option.some.inj hm, rfl⟩, by rw [posW, hT]; exact hP⟩, hS.F hT⟩) hS.2.2 dX8_boxTold_54
      · have hm := (if_pos c3).symm.trans hm
        refine lv_aload_n hx hb dX8_boxTold_32 rfl (lv_at hl 0 rfl) ?_
        refine gfX8_outer hx hb h_X8 hown hK hP l_f58 dX8_boxTold_33 ?_
        refine lv_iload_n hx hb dX8_boxTold_36 rfl (lv_at hl 1 rfl) ?_
        obtain ⟨hi, hm⟩ := ok_I hm
        refine ldM_15 hx hb hK hP hi dX8_boxTold_37 ?_
        refine lv_goto (tgt := 54) hx hb dX8_boxTold_38 (by decide) ?_
        exact W.iret (v := σ.1 27 p1.toNatClampNeg) hx hb hr (fun T hT hW => ⟨⟨σ.1 27 p1.toNatClampNeg, σ, rfl, ⟨Option.some.inj hm, rfl⟩, by rw [posW, hT]; exact hP⟩, hS.F hT⟩) hS.2.2 dX8_boxTold_54
    · have hm := (if_pos c2).symm.trans hm
      refine lv_aload_n hx hb dX8_boxTold_18 rfl (lv_at hl 0 rfl) ?_
      refine gfX8_ends hx hb h_X8 hown hK hP l_f55 dX8_boxTold_19 ?_
      refine lv_iload_n hx hb dX8_boxTold_22 rfl (lv_at hl 1 rfl) ?_
      obtain ⟨hi, hm⟩ := ok_I hm
      refine ldM_14 hx hb hK hP hi dX8_boxTold_23 ?_
      refine lv_goto (tgt := 54) hx hb dX8_boxTold_24 (by decide) ?_
      exact W.iret (v := σ.1 26 p1.toNatClampNeg) hx hb hr (fun T hT hW => ⟨⟨σ.1 26 p1.toNatClampNeg, σ, rfl, ⟨Option.some.inj hm, rfl⟩, by rw [posW, hT]; exact hP⟩, hS.F hT⟩) hS.2.2 dX8_boxTold_54
  · have hm := (if_pos c1).symm.trans hm
    refine lv_aload_n hx hb dX8_boxTold_4 rfl (lv_at hl 0 rfl) ?_
    refine gfX8_begins hx hb h_X8 hown hK hP l_f52 dX8_boxTold_5 ?_
    refine lv_iload_n hx hb dX8_boxTold_8 rfl (lv_at hl 1 rfl) ?_
    obtain ⟨hi, hm⟩ := ok_I hm
    refine ldM_13 hx hb hK hP hi dX8_boxTold_9 ?_
    refine lv_goto (tgt := 54) hx hb dX8_boxTold_10 (by decide) ?_
    exact W.iret (v := σ.1 25 p1.toNatClampNeg) hx hb hr (fun T hT hW => ⟨⟨σ.1 25 p1.toNatClampNeg, σ, rfl, ⟨Option.some.inj hm, rfl⟩, by rw [posW, hT]; exact hP⟩, hS.F hT⟩) hS.2.2 dX8_boxTold_54
theorem eX8_box : yX8_box.cls = RX8 ∧ yX8_box.cls ≠ "java/lang/invoke/MethodHandle" ∧ yX8_box.cls ≠ "java/lang/invoke/VarHandle" ∧ (parseMethodDescriptor yX8_box.desc).map (fun d => d.parameters.length) = some 2 := by decide +kernel
def mX8_box_37 (s1 : St) : Option (Int32 × St) :=
(mX8_no s1 1).bind fun ⟨r2, s4⟩ =>
some (r2, s4)
def mX8_box (σ : St) (p1 : Int32) (p2 : Int32) : Option (Int32 × St) :=
bnd (su σ 0 (fun _ => 0)) fun s5 =>
(mX8_isIn s5 p1 0 ((s5.1 7 0) - 1)).bind fun r6 =>
if r6 = 0 then (
mX8_box_37 s5)
else (
(mX8_isIn s5 p2 0 3).bind fun r9 =>
if r9 = 0 then (
mX8_box_37 s5)
else (
(mX8_boxTold s5 p1 p2).bind fun r12 =>
some (r12, s5)))
set_option maxHeartbeats 4000000 in
set_option maxRecDepth 100000 in
theorem kX8_box (l : Launch) (D : va_G) (y : Nat → ClassId) (a t : Nat → Nat) (hI : AI a 30) (sz : Nat) (σ τ : St) (p1 : Int32) (p2 : Int32) (r : Int32) (hm : mX8_box σ p1 p2 = some (r, τ)) : Met l yX8_box zX8_box { frames := 3, cells := 0, slots := 0, locals := 65 } (va_Pc [.ref (a 0), .int p1, .int p2] (preW (wM y a) a 30 D y t σ sz)) (va_Qi (fun r' u => r' = r ∧ u = τ) (posW (wM y a) D) (AC a 30 sz)) 0 0 (AC a 30 sz) := by
  refine Met.ofW (cc := cX8_box) (maxL := 3) (ret := (some .int)) (by decide) rfl ?_
  intro p e s m args below meth c s₁ B hml hv
  obtain ⟨rfl, hsz, hP, hK, hF⟩ := hv
  have hx := B.exec
  have hb := B.bytes
  have hr := B.returns
  have hts := atoms_spec (ws := zX8_box) B.pre
  have hown : s.vm.findClass RX8 = some m.cls := findClass_of_methodNamed B.named
  have hlocks := B.notSynchronized
  subst hsz
  have l_f106 := hts _ (List.mem_cons_of_mem _ aF_X8_106)
  have l_f202 := hts _ (List.mem_cons_of_mem _ aF_X8_202)
  have h_X8 : ∀ w ∈ wsX80, w.before _ s = true := fun w hw => hts w (List.mem_cons_of_mem _ (hwX8 w hw))
  have hS : va_S (AC a 30 s.heap.size) s.heap s.heap [] := va_S.rf
  have hl := lv_entry ([.ref (a 0), .int p1, .int p2]) (n := 3) (Nat.le_of_ble_eq_true rfl)
  rw [lg_entry_eq]
  generalize (lg_sl ([.ref (a 0), .int p1, .int p2]) ++ List.replicate (3 - (lg_sl ([.ref (a 0), .int p1, .int p2])).length) Slot.unset).toArray = ls at hl ⊢
  have hl : lv_has ls 3 [(0, .ref (a 0)), (1, .int p1), (2, .int p2)] := hl
  have L_37 : ∀ (s1 : St) (H : Heap) (locs : List Loc) (ls : Array Slot), va_P D vwCl (wM y a s1) H → va_S (AC a 30 s.heap.size) s.heap H locs → lv_has ls 3 [(0, .ref (a 0))] → mX8_box_37 s1 = some (r, τ) → W p l e (headSpec zX8_box ({ frames := 3, cells := 0, slots := 0, locals := 65 })).room s m ([.ref (a 0), .int p1, .int p2] : List Value).toArray below meth c H locs 0 0 (MQ below (va_Qi (fun r' u => r' = r ∧ u = τ) (posW (wM y a) D) (AC a 30 s.heap.size)) ([.ref (a 0), .int p1, .int p2] : List Value).toArray s 0 0 (AC a 30 s.heap.size)) (F0 m 37 ls []) := by
    intro s1 H locs ls hP hS hl hm
    unfold mX8_box_37 at hm
    refine lv_aload_n hx hb dX8_box_37 rfl (lv_at hl 0 rfl) ?_
    refine lv_iconst (v := 1) hx hb dX8_box_38 (by decide) ?_
    obtain ⟨⟨r2, s4⟩, h3, hm⟩ := ok_bind hm
    refine calV_i (As := [.int 1]) (rest := []) ⟨hx, hb, hml, hown, hts⟩ (kX8_no l D y a t hI _ s1 s4 1 r2 h3) (cwV 1 hts (gAV aM_X8_119 aI_X8_no aS_X8_no aN_X8 aC_X8_no) rfl rfl rfl eX8_no ⟨Nat.le_of_ble_eq_true rfl, Nat.le_of_ble_eq_true rfl⟩) (preV_W (ci := 8) (q := (RX8, TX8, 42)) hK hP hF hS rfl (wM_0 y a s1)) rfl hl.1 rfl (Nat.le_of_ble_eq_true rfl) dX8_box_39 ⟨Nat.zero_le _, Nat.zero_le _⟩ hS (AC_le hS.1) (fun H locs hP hS hk1 => ?_)
    exact W.iret (v := r2) hx hb hr (fun T hT hW => ⟨⟨r2, s4, rfl, ⟨congrArg Prod.fst (Option.some.inj hm), congrArg Prod.snd (Option.some.inj hm)⟩, by rw [posW, hT]; exact hP⟩, hS.F hT⟩) hS.2.2 dX8_box_42
  unfold mX8_box at hm
  refine lv_aload_n hx hb dX8_box_0 rfl (lv_at hl 0 rfl) ?_
  refine lv_iconst (v := 0) hx hb dX8_box_1 (by decide) ?_
  refine pfX8_thrown hx hb h_X8 hown hK hP hI AC_in hS l_f106 dX8_box_2 (fun H locs hP hS => ?_)
  generalize es5 : su σ 0 (fun _ => 0) = s5 at hP
  have hm := bnd_x es5.symm hm
  refine lv_iload_n hx hb dX8_box_5 rfl (lv_at hl 1 rfl) ?_
  refine lv_iconst (v := 0) hx hb dX8_box_6 (by decide) ?_
  refine lv_aload_n hx hb dX8_box_7 rfl (lv_at hl 0 rfl) ?_
  refine gfX8_boxes hx hb h_X8 hown hK hP l_f202 dX8_box_8 ?_
  refine lv_iconst (v := 1) hx hb dX8_box_11 (by decide) ?_
  refine lv_isub hx hb dX8_box_12 ?_
  obtain ⟨r6, h7, hm⟩ := ok_bind hm
  refine calS_i (As := [.int p1, .int 0, .int ((s5.1 7 0) - 1)]) (rest := []) ⟨hx, hb, hml, hown, hts⟩ (kX8_isIn l D y a t hI _ s5 p1 0 ((s5.1 7 0) - 1) r6 h7) (va_cwS 3 hts (gAS aM_X8_112 aT_X8_isIn aN_X8 aC_X8_isIn) rfl rfl rfl eX8_isIn ⟨Nat.le_of_ble_eq_true rfl, Nat.le_of_ble_eq_true rfl⟩) (preS_W hK hP hF hS) rfl hl.1 rfl (Nat.le_of_ble_eq_true rfl) dX8_box_13 ⟨Nat.zero_le _, Nat.zero_le _⟩ hS (AC_le hS.1) (fun H locs hP hS hk1 => ?_)
  refine lv_if_eq (tgt := 37) hx hb dX8_box_16 (by decide) (fun c8 => ?_) (fun c8 => ?_)
  · have hm := (if_pos c8).symm.trans hm
    exact L_37 s5 _ _ _ hP hS (lv_sub hl [0] rfl) hm
  · have hm := (if_neg c8).symm.trans hm
    refine lv_iload_n hx hb dX8_box_19 rfl (lv_at hl 2 rfl) ?_
    refine lv_iconst (v := 0) hx hb dX8_box_20 (by decide) ?_
    refine lv_iconst (v := 3) hx hb dX8_box_21 (by decide) ?_
    obtain ⟨r9, h10, hm⟩ := ok_bind hm
    refine calS_i (As := [.int p2, .int 0, .int 3]) (rest := []) ⟨hx, hb, hml, hown, hts⟩ (kX8_isIn l D y a t hI _ s5 p2 0 3 r9 h10) (va_cwS 3 hts (gAS aM_X8_112 aT_X8_isIn aN_X8 aC_X8_isIn) rfl rfl rfl eX8_isIn ⟨Nat.le_of_ble_eq_true rfl, Nat.le_of_ble_eq_true rfl⟩) (preS_W hK hP hF hS) rfl hl.1 rfl (Nat.le_of_ble_eq_true rfl) dX8_box_22 ⟨Nat.zero_le _, Nat.zero_le _⟩ hS (AC_le hS.1) (fun H locs hP hS hk1 => ?_)
    refine lv_if_eq (tgt := 37) hx hb dX8_box_25 (by decide) (fun c11 => ?_) (fun c11 => ?_)
    · have hm := (if_pos c11).symm.trans hm
      exact L_37 s5 _ _ _ hP hS (lv_sub hl [0] rfl) hm
    · have hm := (if_neg c11).symm.trans hm
      refine lv_aload_n hx hb dX8_box_28 rfl (lv_at hl 0 rfl) ?_
      refine lv_iload_n hx hb dX8_box_29 rfl (lv_at hl 1 rfl) ?_
      refine lv_iload_n hx hb dX8_box_30 rfl (lv_at hl 2 rfl) ?_
      obtain ⟨r12, h13, hm⟩ := ok_bind hm
      refine calV_i (As := [.int p1, .int p2]) (rest := []) ⟨hx, hb, hml, hown, hts⟩ (kX8_boxTold l D y a t hI _ s5 p1 p2 r12 h13) (cwV 2 hts (gAV aM_X8_274 aI_X8_boxTold aS_X8_boxTold aN_X8 aC_X8_boxTold) rfl rfl rfl eX8_boxTold ⟨Nat.le_of_ble_eq_true rfl, Nat.le_of_ble_eq_true rfl⟩) (preV_W (ci := 8) (q := (RX8, TX8, 42)) hK hP hF hS rfl (wM_0 y a s5)) rfl hl.1 rfl (Nat.le_of_ble_eq_true rfl) dX8_box_31 ⟨Nat.zero_le _, Nat.zero_le _⟩ hS (AC_le hS.1) (fun H locs hP hS hk1 => ?_)
      refine lv_goto (tgt := 42) hx hb dX8_box_34 (by decide) ?_
      exact W.iret (v := r12) hx hb hr (fun T hT hW => ⟨⟨r12, s5, rfl, ⟨congrArg Prod.fst (Option.some.inj hm), congrArg Prod.snd (Option.some.inj hm)⟩, by rw [posW, hT]; exact hP⟩, hS.F hT⟩) hS.2.2 dX8_box_42
theorem eX8_fails : yX8_fails.cls = RX8 ∧ yX8_fails.cls ≠ "java/lang/invoke/MethodHandle" ∧ yX8_fails.cls ≠ "java/lang/invoke/VarHandle" ∧ (parseMethodDescriptor yX8_fails.desc).map (fun d => d.parameters.length) = some 1 := by decide +kernel
def mX8_fails_178 (kh35 : St → Int32 → Int32 → Int32 → Int32 → Option (Int32 × St)) (s6 : St) (v1 : Int32) (v2 : Int32) (v3 : Int32) (v4 : Int32) (v5 : Int32) : Option (Int32 × St) :=
bnd (v5 + v4) fun x7 =>
bnd (v3 + 1) fun x8 =>
kh35 s6 v1 x7 v2 x8
def mX8_fails_167 (kh35 : St → Int32 → Int32 → Int32 → Int32 → Option (Int32 × St)) (s14 : St) (v9 : Int32) (v10 : Int32) (v11 : Int32) (v12 : Int32) (v13 : Int32) : Option (Int32 × St) :=
if v13 = 0 then (
mX8_fails_178 kh35 s14 v9 v11 v12 0 v10)
else (
mX8_fails_178 kh35 s14 v9 v11 v12 1 v10)
def mX8_fails_153 (kh35 : St → Int32 → Int32 → Int32 → Int32 → Option (Int32 × St)) (kh116 : St → Int32 → Int32 → Int32 → Int32 → Int32 → Int32 → Option (Int32 × St)) (s22 : St) (v16 : Int32) (v17 : Int32) (v18 : Int32) (v19 : Int32) (v20 : Int32) (v21 : Int32) : Option (Int32 × St) :=
chkI v20 60 (
bnd (s22.1 27 v20.toNatClampNeg) fun x23 =>
kh116 s22 v16 v17 v18 v19 v21 x23)
def mX8_fails_152 (kh35 : St → Int32 → Int32 → Int32 → Int32 → Option (Int32 × St)) (kh116 : St → Int32 → Int32 → Int32 → Int32 → Int32 → Int32 → Option (Int32 × St)) (s29 : St) (v24 : Int32) (v25 : Int32) (v26 : Int32) (v27 : Int32) (v28 : Int32) : Option (Int32 × St) :=
mX8_fails_153 kh35 kh116 s29 v24 v25 v26 v27 v28 0
def bX8_fails_116 (kh35 : St → Int32 → Int32 → Int32 → Int32 → Option (Int32 × St)) (kh116 : St → Int32 → Int32 → Int32 → Int32 → Int32 → Int32 → Option (Int32 × St)) (s36 : St) (v30 : Int32) (v31 : Int32) (v32 : Int32) (v33 : Int32) (v34 : Int32) (v35 : Int32) : Option (Int32 × St) :=
if v35 = (-1) then (
mX8_fails_167 kh35 s36 v30 v31 v32 v33 v34)
else (
if v34 = 0 then (
mX8_fails_152 kh35 kh116 s36 v30 v31 v32 v33 v35)
else (
chkI v35 60 (
chkI (s36.1 25 v35.toNatClampNeg) 60 (
(mX8_isTrueAt s36 (s36.1 21 (s36.1 25 v35.toNatClampNeg).toNatClampNeg) v33).bind fun r39 =>
if r39 = 0 then (
mX8_fails_152 kh35 kh116 s36 v30 v31 v32 v33 v35)
else (
mX8_fails_153 kh35 kh116 s36 v30 v31 v32 v33 v35 1)))))
abbrev mX8_fails_116 (kh35 : St → Int32 → Int32 → Int32 → Int32 → Option (Int32 × St)) (n : Nat) : St → Int32 → Int32 → Int32 → Int32 → Int32 → Int32 → Option (Int32 × St) := fx (fun _ _ _ _ _ _ _ => none) (bX8_fails_116 kh35) n
def mX8_fails_108 (kh35 : St → Int32 → Int32 → Int32 → Int32 → Option (Int32 × St)) (s47 : St) (v42 : Int32) (v43 : Int32) (v44 : Int32) (v45 : Int32) (v46 : Int32) : Option (Int32 × St) :=
chkI v42 60 (
bnd (s47.1 24 v42.toNatClampNeg) fun x48 =>
mX8_fails_116 kh35 NF s47 v42 v43 v44 v45 v46 x48)
def mX8_fails_100 (kh35 : St → Int32 → Int32 → Int32 → Int32 → Option (Int32 × St)) (kh68 : St → Int32 → Int32 → Int32 → Int32 → Int32 → Int32 → Option (Int32 × St)) (s55 : St) (v49 : Int32) (v50 : Int32) (v51 : Int32) (v52 : Int32) (v53 : Int32) (v54 : Int32) : Option (Int32 × St) :=
bnd (v53 + 1) fun x56 =>
kh68 s55 v49 v50 v51 v52 v54 x56
def mX8_fails_99 (kh35 : St → Int32 → Int32 → Int32 → Int32 → Option (Int32 × St)) (kh68 : St → Int32 → Int32 → Int32 → Int32 → Int32 → Int32 → Option (Int32 × St)) (s62 : St) (v57 : Int32) (v58 : Int32) (v59 : Int32) (v60 : Int32) (v61 : Int32) : Option (Int32 × St) :=
mX8_fails_100 kh35 kh68 s62 v57 v58 v59 v60 v61 0
def bX8_fails_68 (kh35 : St → Int32 → Int32 → Int32 → Int32 → Option (Int32 × St)) (kh68 : St → Int32 → Int32 → Int32 → Int32 → Int32 → Int32 → Option (Int32 × St)) (s69 : St) (v63 : Int32) (v64 : Int32) (v65 : Int32) (v66 : Int32) (v67 : Int32) (v68 : Int32) : Option (Int32 × St) :=
if v65 ≤ v68 then (
mX8_fails_108 kh35 s69 v63 v64 v65 v66 v67)
else (
if v67 = 0 then (
mX8_fails_99 kh35 kh68 s69 v63 v64 v65 v66 v68)
else (
chkI v68 60 (
(mX8_isTrueAt s69 (s69.1 21 v68.toNatClampNeg) v66).bind fun r72 =>
if r72 = 0 then (
mX8_fails_99 kh35 kh68 s69 v63 v64 v65 v66 v68)
else (
mX8_fails_100 kh35 kh68 s69 v63 v64 v65 v66 v68 1))))
abbrev mX8_fails_68 (kh35 : St → Int32 → Int32 → Int32 → Int32 → Option (Int32 × St)) (n : Nat) : St → Int32 → Int32 → Int32 → Int32 → Int32 → Int32 → Option (Int32 × St) := fx (fun _ _ _ _ _ _ _ => none) (bX8_fails_68 kh35) n
def mX8_fails_63 (kh35 : St → Int32 → Int32 → Int32 → Int32 → Option (Int32 × St)) (s80 : St) (v75 : Int32) (v76 : Int32) (v77 : Int32) (v78 : Int32) (v79 : Int32) : Option (Int32 × St) :=
mX8_fails_68 kh35 NF s80 v75 v76 v77 v78 v79 0
def bX8_fails_35 (kh35 : St → Int32 → Int32 → Int32 → Int32 → Option (Int32 × St)) (s85 : St) (v81 : Int32) (v82 : Int32) (v83 : Int32) (v84 : Int32) : Option (Int32 × St) :=
if 256 ≤ v84 then (
some (v82, s85))
else (
chkI v81 60 (
(mX8_isTrueAt s85 (s85.1 21 v81.toNatClampNeg) v84).bind fun r87 =>
if r87 = 0 then (
mX8_fails_63 kh35 s85 v81 v82 v83 v84 1)
else (
mX8_fails_63 kh35 s85 v81 v82 v83 v84 0)))
abbrev mX8_fails_35 (n : Nat) : St → Int32 → Int32 → Int32 → Int32 → Option (Int32 × St) := fx (fun _ _ _ _ _ => none) (bX8_fails_35) n
def mX8_fails (σ : St) (p1 : Int32) : Option (Int32 × St) :=
bnd (su σ 0 (fun _ => 0)) fun s90 =>
(mX8_isIn s90 p1 0 ((s90.1 6 0) - 1)).bind fun r91 =>
if r91 = 0 then (
(mX8_no s90 1).bind fun ⟨r96, s98⟩ =>
some (r96, s98))
else (
(mX8_premisesNow s90).bind fun r94 =>
mX8_fails_35 NF s90 p1 0 r94 0)
set_option maxHeartbeats 4000000 in
set_option maxRecDepth 100000 in
theorem kX8_fails (l : Launch) (D : va_G) (y : Nat → ClassId) (a t : Nat → Nat) (hI : AI a 30) (sz : Nat) (σ τ : St) (p1 : Int32) (r : Int32) (hm : mX8_fails σ p1 = some (r, τ)) : Met l yX8_fails zX8_fails { frames := 1, cells := 0, slots := 0, locals := 22 } (va_Pc [.ref (a 0), .int p1] (preW (wM y a) a 30 D y t σ sz)) (va_Qi (fun r' u => r' = r ∧ u = τ) (posW (wM y a) D) (AC a 30 sz)) 0 0 (AC a 30 sz) := by
  refine Met.ofW (cc := cX8_fails) (maxL := 7) (ret := (some .int)) (by decide) rfl ?_
  intro p e s m args below meth c s₁ B hml hv
  obtain ⟨rfl, hsz, hP, hK, hF⟩ := hv
  have hx := B.exec
  have hb := B.bytes
  have hr := B.returns
  have hts := atoms_spec (ws := zX8_fails) B.pre
  have hown : s.vm.findClass RX8 = some m.cls := findClass_of_methodNamed B.named
  have hlocks := B.notSynchronized
  subst hsz
  have l_f106 := hts _ (List.mem_cons_of_mem _ aF_X8_106)
  have l_f199 := hts _ (List.mem_cons_of_mem _ aF_X8_199)
  have l_f40 := hts _ (List.mem_cons_of_mem _ aF_X8_40)
  have l_f49 := hts _ (List.mem_cons_of_mem _ aF_X8_49)
  have l_f52 := hts _ (List.mem_cons_of_mem _ aF_X8_52)
  have l_f58 := hts _ (List.mem_cons_of_mem _ aF_X8_58)
  have h_X8 : ∀ w ∈ wsX80, w.before _ s = true := fun w hw => hts w (List.mem_cons_of_mem _ (hwX8 w hw))
  have hS : va_S (AC a 30 s.heap.size) s.heap s.heap [] := va_S.rf
  have hl := lv_entry ([.ref (a 0), .int p1]) (n := 7) (Nat.le_of_ble_eq_true rfl)
  rw [lg_entry_eq]
  generalize (lg_sl ([.ref (a 0), .int p1]) ++ List.replicate (7 - (lg_sl ([.ref (a 0), .int p1])).length) Slot.unset).toArray = ls at hl ⊢
  have hl : lv_has ls 7 [(0, .ref (a 0)), (1, .int p1)] := hl
  have L_35 : ∀ (n : Nat) (s85 : St) (v81 : Int32) (v82 : Int32) (v83 : Int32) (v84 : Int32) (H : Heap) (locs : List Loc) (ls : Array Slot), va_P D vwCl (wM y a s85) H → va_S (AC a 30 s.heap.size) s.heap H locs → lv_has ls 7 [(0, .ref (a 0)), (1, .int v81), (2, .int v82), (3, .int v83), (4, .int v84)] → mX8_fails_35 n s85 v81 v82 v83 v84 = some (r, τ) → W p l e (headSpec zX8_fails ({ frames := 1, cells := 0, slots := 0, locals := 22 })).room s m ([.ref (a 0), .int p1] : List Value).toArray below meth c H locs 0 0 (MQ below (va_Qi (fun r' u => r' = r ∧ u = τ) (posW (wM y a) D) (AC a 30 s.heap.size)) ([.ref (a 0), .int p1] : List Value).toArray s 0 0 (AC a 30 s.heap.size)) (F0 m 35 ls []) := by
    intro n
    induction n with
    | zero =>
      intro s85 v81 v82 v83 v84 H locs ls hP hS hl hm
      exact absurd (show (none : Option (Int32 × St)) = some (r, τ) from hm) (by intro h; cases h)
    | succ n ih35 =>
      obtain ⟨kh35, ekh35⟩ : ∃ z, z = mX8_fails_35 n := ⟨_, rfl⟩
      have ih35 : ∀ (s85 : St) (v81 : Int32) (v82 : Int32) (v83 : Int32) (v84 : Int32) (H : Heap) (locs : List Loc) (ls : Array Slot), va_P D vwCl (wM y a s85) H → va_S (AC a 30 s.heap.size) s.heap H locs → lv_has ls 7 [(0, .ref (a 0)), (1, .int v81), (2, .int v82), (3, .int v83), (4, .int v84)] → kh35 s85 v81 v82 v83 v84 = some (r, τ) → W p l e (headSpec zX8_fails ({ frames := 1, cells := 0, slots := 0, locals := 22 })).room s m ([.ref (a 0), .int p1] : List Value).toArray below meth c H locs 0 0 (MQ below (va_Qi (fun r' u => r' = r ∧ u = τ) (posW (wM y a) D) (AC a 30 s.heap.size)) ([.ref (a 0), .int p1] : List Value).toArray s 0 0 (AC a 30 s.heap.size)) (F0 m 35 ls []) := by rw [ekh35]; exact ih35
      have L_178 : ∀ (s6 : St) (v1 : Int32) (v2 : Int32) (v3 : Int32) (v4 : Int32) (v5 : Int32) (H : Heap) (locs : List Loc) (ls : Array Slot), va_P D vwCl (wM y a s6) H → va_S (AC a 30 s.heap.size) s.heap H locs → lv_has ls 7 [(0, .ref (a 0)), (1, .int v1), (3, .int v2), (4, .int v3)] → mX8_fails_178 kh35 s6 v1 v2 v3 v4 v5 = some (r, τ) → W p l e (headSpec zX8_fails ({ frames := 1, cells := 0, slots := 0, locals := 22 })).room s m ([.ref (a 0), .int p1] : List Value).toArray below meth c H locs 0 0 (MQ below (va_Qi (fun r' u => r' = r ∧ u = τ) (posW (wM y a) D) (AC a 30 s.heap.size)) ([.ref (a 0), .int p1] : List Value).toArray s 0 0 (AC a 30 s.heap.size)) (F0 m 178 ls [.int v4, .int v5]) := by
        intro s6 v1 v2 v3 v4 v5 H locs ls hP hS hl hm
        unfold mX8_fails_178 at hm
        refine lv_iadd hx hb dX8_fails_178 ?_
        refine lv_topi (fun x7 ex7 => ?_)
        have hm := bnd_x ex7 hm
        refine lv_istore_n (lv' := [(2, .int x7), (0, .ref (a 0)), (1, .int v1), (3, .int v2), (4, .int v3)]) hx hb dX8_fails_179 rfl hl (by decide) rfl (fun ls hl => ?_)
        obtain ⟨x8, ex8⟩ : ∃ z : Int32, z = v3 + 1 := ⟨_, rfl⟩
        have hm := bnd_x ex8 hm
        refine lv_iinc (v := x8) (lv' := [(4, .int x8), (2, .int x7), (0, .ref (a 0)), (1, .int v1), (3, .int v2)]) hx hb dX8_fails_180 hl (k := 4) rfl (by rw [ex8]; rfl) (by decide) rfl (fun ls hl => ?_)
        refine lv_goto (tgt := 35) hx hb dX8_fails_183 (by decide) ?_
        exact ih35 s6 v1 x7 v2 x8 _ _ _ hP hS (lv_sub hl [2, 3, 1, 4, 0] rfl) hm
      have L_167 : ∀ (s14 : St) (v9 : Int32) (v10 : Int32) (v11 : Int32) (v12 : Int32) (v13 : Int32) (H : Heap) (locs : List Loc) (ls : Array Slot), va_P D vwCl (wM y a s14) H → va_S (AC a 30 s.heap.size) s.heap H locs → lv_has ls 7 [(0, .ref (a 0)), (1, .int v9), (2, .int v10), (3, .int v11), (4, .int v12), (5, .int v13)] → mX8_fails_167 kh35 s14 v9 v10 v11 v12 v13 = some (r, τ) → W p l e (headSpec zX8_fails ({ frames := 1, cells := 0, slots := 0, locals := 22 })).room s m ([.ref (a 0), .int p1] : List Value).toArray below meth c H locs 0 0 (MQ below (va_Qi (fun r' u => r' = r ∧ u = τ) (posW (wM y a) D) (AC a 30 s.heap.size)) ([.ref (a 0), .int p1] : List Value).toArray s 0 0 (AC a 30 s.heap.size)) (F0 m 167 ls []) := by
        intro s14 v9 v10 v11 v12 v13 H locs ls hP hS hl hm
        unfold mX8_fails_167 at hm
        refine lv_iload_n hx hb dX8_fails_167 rfl (lv_at hl 2 rfl) ?_
        refine lv_iload hx hb dX8_fails_168 (lv_at hl 5 rfl) ?_
        refine lv_if_eq (tgt := 177) hx hb dX8_fails_170 (by decide) (fun c15 => ?_) (fun c15 => ?_)
        · have hm := (if_pos c15).symm.trans hm
          refine lv_iconst (v := 0) hx hb dX8_fails_177 (by decide) ?_
          exact L_178 s14 v9 v11 v12 0 v10 _ _ _ hP hS (lv_sub hl [0, 1, 3, 4] rfl) hm
        · have hm := (if_neg c15).symm.trans hm
          refine lv_iconst (v := 1) hx hb dX8_fails_173 (by decide) ?_
          refine lv_goto (tgt := 178) hx hb dX8_fails_174 (by decide) ?_
          exact L_178 s14 v9 v11 v12 1 v10 _ _ _ hP hS (lv_sub hl [0, 1, 3, 4] rfl) hm
      have L_116 : ∀ (n : Nat) (s36 : St) (v30 : Int32) (v31 : Int32) (v32 : Int32) (v33 : Int32) (v34 : Int32) (v35 : Int32) (H : Heap) (locs : List Loc) (ls : Array Slot), va_P D vwCl (wM y a s36) H → va_S (AC a 30 s.heap.size) s.heap H locs → lv_has ls 7 [(0, .ref (a 0)), (1, .int v30), (2, .int v31), (3, .int v32), (4, .int v33), (5, .int v34), (6, .int v35)] → mX8_fails_116 kh35 n s36 v30 v31 v32 v33 v34 v35 = some (r, τ) → W p l e (headSpec zX8_fails ({ frames := 1, cells := 0, slots := 0, locals := 22 })).room s m ([.ref (a 0), .int p1] : List Value).toArray below meth c H locs 0 0 (MQ below (va_Qi (fun r' u => r' = r ∧ u = τ) (posW (wM y a) D) (AC a 30 s.heap.size)) ([.ref (a 0), .int p1] : List Value).toArray s 0 0 (AC a 30 s.heap.size)) (F0 m 116 ls []) := by
        intro n
        induction n with
        | zero =>
          intro s36 v30 v31 v32 v33 v34 v35 H locs ls hP hS hl hm
          exact absurd (show (none : Option (Int32 × St)) = some (r, τ) from hm) (by intro h; cases h)
        | succ n ih116 =>
          obtain ⟨kh116, ekh116⟩ : ∃ z, z = mX8_fails_116 kh35 n := ⟨_, rfl⟩
          have ih116 : ∀ (s36 : St) (v30 : Int32) (v31 : Int32) (v32 : Int32) (v33 : Int32) (v34 : Int32) (v35 : Int32) (H : Heap) (locs : List Loc) (ls : Array Slot), va_P D vwCl (wM y a s36) H → va_S (AC a 30 s.heap.size) s.heap H locs → lv_has ls 7 [(0, .ref (a 0)), (1, .int v30), (2, .int v31), (3, .int v32), (4, .int v33), (5, .int v34), (6, .int v35)] → kh116 s36 v30 v31 v32 v33 v34 v35 = some (r, τ) → W p l e (headSpec zX8_fails ({ frames := 1, cells := 0, slots := 0, locals := 22 })).room s m ([.ref (a 0), .int p1] : List Value).toArray below meth c H locs 0 0 (MQ below (va_Qi (fun r' u => r' = r ∧ u = τ) (posW (wM y a) D) (AC a 30 s.heap.size)) ([.ref (a 0), .int p1] : List Value).toArray s 0 0 (AC a 30 s.heap.size)) (F0 m 116 ls []) := by rw [ekh116]; exact ih116
          have L_153 : ∀ (s22 : St) (v16 : Int32) (v17 : Int32) (v18 : Int32) (v19 : Int32) (v20 : Int32) (v21 : Int32) (H : Heap) (locs : List Loc) (ls : Array Slot), va_P D vwCl (wM y a s22) H → va_S (AC a 30 s.heap.size) s.heap H locs → lv_has ls 7 [(0, .ref (a 0)), (1, .int v16), (2, .int v17), (3, .int v18), (4, .int v19), (6, .int v20)] → mX8_fails_153 kh35 kh116 s22 v16 v17 v18 v19 v20 v21 = some (r, τ) → W p l e (headSpec zX8_fails ({ frames := 1, cells := 0, slots := 0, locals := 22 })).room s m ([.ref (a 0), .int p1] : List Value).toArray below meth c H locs 0 0 (MQ below (va_Qi (fun r' u => r' = r ∧ u = τ) (posW (wM y a) D) (AC a 30 s.heap.size)) ([.ref (a 0), .int p1] : List Value).toArray s 0 0 (AC a 30 s.heap.size)) (F0 m 153 ls [.int v21]) := by
            intro s22 v16 v17 v18 v19 v20 v21 H locs ls hP hS hl hm
            unfold mX8_fails_153 at hm
            refine lv_istore (lv' := [(5, .int v21), (0, .ref (a 0)), (1, .int v16), (2, .int v17), (3, .int v18), (4, .int v19), (6, .int v20)]) hx hb dX8_fails_153 hl (by decide) rfl (fun ls hl => ?_)
            refine lv_aload_n hx hb dX8_fails_155 rfl (lv_at hl 1 rfl) ?_
            refine gfX8_outer hx hb h_X8 hown hK hP l_f58 dX8_fails_156 ?_
            refine lv_iload hx hb dX8_fails_159 (lv_at hl 6 rfl) ?_
            obtain ⟨hi, hm⟩ := ok_I hm
            refine ldM_15 hx hb hK hP hi dX8_fails_161 ?_
            refine lv_topi (fun x23 ex23 => ?_)
            have hm := bnd_x ex23 hm
            refine lv_istore (lv' := [(6, .int x23), (5, .int v21), (0, .ref (a 0)), (1, .int v16), (2, .int v17), (3, .int v18), (4, .int v19)]) hx hb dX8_fails_162 hl (by decide) rfl (fun ls hl => ?_)
            refine lv_goto (tgt := 116) hx hb dX8_fails_164 (by decide) ?_
            exact ih116 s22 v16 v17 v18 v19 v21 x23 _ _ _ hP hS (lv_sub hl [2, 3, 4, 5, 6, 1, 0] rfl) hm
          have L_152 : ∀ (s29 : St) (v24 : Int32) (v25 : Int32) (v26 : Int32) (v27 : Int32) (v28 : Int32) (H : Heap) (locs : List Loc) (ls : Array Slot), va_P D vwCl (wM y a s29) H → va_S (AC a 30 s.heap.size) s.heap H locs → lv_has ls 7 [(0, .ref (a 0)), (1, .int v24), (2, .int v25), (3, .int v26), (4, .int v27), (6, .int v28)] → mX8_fails_152 kh35 kh116 s29 v24 v25 v26 v27 v28 = some (r, τ) → W p l e (headSpec zX8_fails ({ frames := 1, cells := 0, slots := 0, locals := 22 })).room s m ([.ref (a 0), .int p1] : List Value).toArray below meth c H locs 0 0 (MQ below (va_Qi (fun r' u => r' = r ∧ u = τ) (posW (wM y a) D) (AC a 30 s.heap.size)) ([.ref (a 0), .int p1] : List Value).toArray s 0 0 (AC a 30 s.heap.size)) (F0 m 152 ls []) := by
            intro s29 v24 v25 v26 v27 v28 H locs ls hP hS hl hm
            unfold mX8_fails_152 at hm
            refine lv_iconst (v := 0) hx hb dX8_fails_152 (by decide) ?_
            exact L_153 s29 v24 v25 v26 v27 v28 0 _ _ _ hP hS (lv_sub hl [0, 1, 2, 3, 4, 5] rfl) hm
          intro s36 v30 v31 v32 v33 v34 v35 H locs ls hP hS hl hm
          have hm : bX8_fails_116 kh35 (mX8_fails_116 kh35 n) s36 v30 v31 v32 v33 v34 v35 = some (r, τ) := hm
          rw [← ekh116] at hm
          unfold bX8_fails_116 at hm
          refine lv_iload hx hb dX8_fails_116 (lv_at hl 6 rfl) ?_
          refine lv_iconst (v := (-1)) hx hb dX8_fails_118 (by decide) ?_
          refine lv_icmp_eq (tgt := 167) hx hb dX8_fails_119 (by decide) (fun c37 => ?_) (fun c37 => ?_)
          · have hm := (if_pos c37).symm.trans hm
            exact L_167 s36 v30 v31 v32 v33 v34 _ _ _ hP hS (lv_sub hl [0, 1, 2, 3, 4, 5] rfl) hm
          · have hm := (if_neg c37).symm.trans hm
            refine lv_iload hx hb dX8_fails_122 (lv_at hl 5 rfl) ?_
            refine lv_if_eq (tgt := 152) hx hb dX8_fails_124 (by decide) (fun c38 => ?_) (fun c38 => ?_)
            · have hm := (if_pos c38).symm.trans hm
              exact L_152 s36 v30 v31 v32 v33 v35 _ _ _ hP hS (lv_sub hl [0, 1, 2, 3, 4, 6] rfl) hm
            · have hm := (if_neg c38).symm.trans hm
              refine lv_aload_n hx hb dX8_fails_127 rfl (lv_at hl 0 rfl) ?_
              refine lv_aload_n hx hb dX8_fails_128 rfl (lv_at hl 0 rfl) ?_
              refine gfX8_shown hx hb h_X8 hown hK hP l_f40 dX8_fails_129 ?_
              refine lv_aload_n hx hb dX8_fails_132 rfl (lv_at hl 0 rfl) ?_
              refine gfX8_begins hx hb h_X8 hown hK hP l_f52 dX8_fails_133 ?_
              refine lv_iload hx hb dX8_fails_136 (lv_at hl 6 rfl) ?_
              obtain ⟨hi, hm⟩ := ok_I hm
              refine ldM_13 hx hb hK hP hi dX8_fails_138 ?_
              obtain ⟨hi, hm⟩ := ok_I hm
              refine ldM_9 hx hb hK hP hi dX8_fails_139 ?_
              refine lv_iload hx hb dX8_fails_140 (lv_at hl 4 rfl) ?_
              obtain ⟨r39, h40, hm⟩ := ok_bind hm
              refine calV_i (As := [.int (s36.1 21 (s36.1 25 v35.toNatClampNeg).toNatClampNeg), .int v33]) (rest := []) ⟨hx, hb, hml, hown, hts⟩ (kX8_isTrueAt l D y a t hI _ s36 (s36.1 21 (s36.1 25 v35.toNatClampNeg).toNatClampNeg) v33 r39 h40) (cwV 2 hts (gAV aM_X8_134 aI_X8_isTrueAt aS_X8_isTrueAt aN_X8 aC_X8_isTrueAt) rfl rfl rfl eX8_isTrueAt ⟨Nat.le_of_ble_eq_true rfl, Nat.le_of_ble_eq_true rfl⟩) (preV_W (ci := 8) (q := (RX8, TX8, 42)) hK hP hF hS rfl (wM_0 y a s36)) rfl hl.1 rfl (Nat.le_of_ble_eq_true rfl) dX8_fails_142 ⟨Nat.zero_le _, Nat.zero_le _⟩ hS (AC_le hS.1) (fun H locs hP hS hk1 => ?_)
              refine lv_if_eq (tgt := 152) hx hb dX8_fails_145 (by decide) (fun c41 => ?_) (fun c41 => ?_)
              · have hm := (if_pos c41).symm.trans hm
                exact L_152 s36 v30 v31 v32 v33 v35 _ _ _ hP hS (lv_sub hl [0, 1, 2, 3, 4, 6] rfl) hm
              · have hm := (if_neg c41).symm.trans hm
                refine lv_iconst (v := 1) hx hb dX8_fails_148 (by decide) ?_
                refine lv_goto (tgt := 153) hx hb dX8_fails_149 (by decide) ?_
                exact L_153 s36 v30 v31 v32 v33 v35 1 _ _ _ hP hS (lv_sub hl [0, 1, 2, 3, 4, 6] rfl) hm
      have L_108 : ∀ (s47 : St) (v42 : Int32) (v43 : Int32) (v44 : Int32) (v45 : Int32) (v46 : Int32) (H : Heap) (locs : List Loc) (ls : Array Slot), va_P D vwCl (wM y a s47) H → va_S (AC a 30 s.heap.size) s.heap H locs → lv_has ls 7 [(0, .ref (a 0)), (1, .int v42), (2, .int v43), (3, .int v44), (4, .int v45), (5, .int v46)] → mX8_fails_108 kh35 s47 v42 v43 v44 v45 v46 = some (r, τ) → W p l e (headSpec zX8_fails ({ frames := 1, cells := 0, slots := 0, locals := 22 })).room s m ([.ref (a 0), .int p1] : List Value).toArray below meth c H locs 0 0 (MQ below (va_Qi (fun r' u => r' = r ∧ u = τ) (posW (wM y a) D) (AC a 30 s.heap.size)) ([.ref (a 0), .int p1] : List Value).toArray s 0 0 (AC a 30 s.heap.size)) (F0 m 108 ls []) := by
        intro s47 v42 v43 v44 v45 v46 H locs ls hP hS hl hm
        unfold mX8_fails_108 at hm
        refine lv_aload_n hx hb dX8_fails_108 rfl (lv_at hl 0 rfl) ?_
        refine gfX8_boxOf hx hb h_X8 hown hK hP l_f49 dX8_fails_109 ?_
        refine lv_iload_n hx hb dX8_fails_112 rfl (lv_at hl 1 rfl) ?_
        obtain ⟨hi, hm⟩ := ok_I hm
        refine ldM_12 hx hb hK hP hi dX8_fails_113 ?_
        refine lv_topi (fun x48 ex48 => ?_)
        have hm := bnd_x ex48 hm
        refine lv_istore (lv' := [(6, .int x48), (0, .ref (a 0)), (1, .int v42), (2, .int v43), (3, .int v44), (4, .int v45), (5, .int v46)]) hx hb dX8_fails_114 hl (by decide) rfl (fun ls hl => ?_)
        exact L_116 NF s47 v42 v43 v44 v45 v46 x48 _ _ _ hP hS (lv_sub hl [1, 2, 3, 4, 5, 6, 0] rfl) hm
      have L_68 : ∀ (n : Nat) (s69 : St) (v63 : Int32) (v64 : Int32) (v65 : Int32) (v66 : Int32) (v67 : Int32) (v68 : Int32) (H : Heap) (locs : List Loc) (ls : Array Slot), va_P D vwCl (wM y a s69) H → va_S (AC a 30 s.heap.size) s.heap H locs → lv_has ls 7 [(0, .ref (a 0)), (1, .int v63), (2, .int v64), (3, .int v65), (4, .int v66), (5, .int v67), (6, .int v68)] → mX8_fails_68 kh35 n s69 v63 v64 v65 v66 v67 v68 = some (r, τ) → W p l e (headSpec zX8_fails ({ frames := 1, cells := 0, slots := 0, locals := 22 })).room s m ([.ref (a 0), .int p1] : List Value).toArray below meth c H locs 0 0 (MQ below (va_Qi (fun r' u => r' = r ∧ u = τ) (posW (wM y a) D) (AC a 30 s.heap.size)) ([.ref (a 0), .int p1] : List Value).toArray s 0 0 (AC a 30 s.heap.size)) (F0 m 68 ls []) := by
        intro n
        induction n with
        | zero =>
          intro s69 v63 v64 v65 v66 v67 v68 H locs ls hP hS hl hm
          exact absurd (show (none : Option (Int32 × St)) = some (r, τ) from hm) (by intro h; cases h)
        | succ n ih68 =>
          obtain ⟨kh68, ekh68⟩ : ∃ z, z = mX8_fails_68 kh35 n := ⟨_, rfl⟩
          have ih68 : ∀ (s69 : St) (v63 : Int32) (v64 : Int32) (v65 : Int32) (v66 : Int32) (v67 : Int32) (v68 : Int32) (H : Heap) (locs : List Loc) (ls : Array Slot), va_P D vwCl (wM y a s69) H → va_S (AC a 30 s.heap.size) s.heap H locs → lv_has ls 7 [(0, .ref (a 0)), (1, .int v63), (2, .int v64), (3, .int v65), (4, .int v66), (5, .int v67), (6, .int v68)] → kh68 s69 v63 v64 v65 v66 v67 v68 = some (r, τ) → W p l e (headSpec zX8_fails ({ frames := 1, cells := 0, slots := 0, locals := 22 })).room s m ([.ref (a 0), .int p1] : List Value).toArray below meth c H locs 0 0 (MQ below (va_Qi (fun r' u => r' = r ∧ u = τ) (posW (wM y a) D) (AC a 30 s.heap.size)) ([.ref (a 0), .int p1] : List Value).toArray s 0 0 (AC a 30 s.heap.size)) (F0 m 68 ls []) := by rw [ekh68]; exact ih68
          have L_100 : ∀ (s55 : St) (v49 : Int32) (v50 : Int32) (v51 : Int32) (v52 : Int32) (v53 : Int32) (v54 : Int32) (H : Heap) (locs : List Loc) (ls : Array Slot), va_P D vwCl (wM y a s55) H → va_S (AC a 30 s.heap.size) s.heap H locs → lv_has ls 7 [(0, .ref (a 0)), (1, .int v49), (2, .int v50), (3, .int v51), (4, .int v52), (6, .int v53)] → mX8_fails_100 kh35 kh68 s55 v49 v50 v51 v52 v53 v54 = some (r, τ) → W p l e (headSpec zX8_fails ({ frames := 1, cells := 0, slots := 0, locals := 22 })).room s m ([.ref (a 0), .int p1] : List Value).toArray below meth c H locs 0 0 (MQ below (va_Qi (fun r' u => r' = r ∧ u = τ) (posW (wM y a) D) (AC a 30 s.heap.size)) ([.ref (a 0), .int p1] : List Value).toArray s 0 0 (AC a 30 s.heap.size)) (F0 m 100 ls [.int v54]) := by
            intro s55 v49 v50 v51 v52 v53 v54 H locs ls hP hS hl hm
            unfold mX8_fails_100 at hm
            refine lv_istore (lv' := [(5, .int v54), (0, .ref (a 0)), (1, .int v49), (2, .int v50), (3, .int v51), (4, .int v52), (6, .int v53)]) hx hb dX8_fails_100 hl (by decide) rfl (fun ls hl => ?_)
            obtain ⟨x56, ex56⟩ : ∃ z : Int32, z = v53 + 1 := ⟨_, rfl⟩
            have hm := bnd_x ex56 hm
            refine lv_iinc (v := x56) (lv' := [(6, .int x56), (5, .int v54), (0, .ref (a 0)), (1, .int v49), (2, .int v50), (3, .int v51), (4, .int v52)]) hx hb dX8_fails_102 hl (k := 6) rfl (by rw [ex56]; rfl) (by decide) rfl (fun ls hl => ?_)
            refine lv_goto (tgt := 68) hx hb dX8_fails_105 (by decide) ?_
            exact ih68 s55 v49 v50 v51 v52 v54 x56 _ _ _ hP hS (lv_sub hl [2, 3, 4, 5, 6, 1, 0] rfl) hm
          have L_99 : ∀ (s62 : St) (v57 : Int32) (v58 : Int32) (v59 : Int32) (v60 : Int32) (v61 : Int32) (H : Heap) (locs : List Loc) (ls : Array Slot), va_P D vwCl (wM y a s62) H → va_S (AC a 30 s.heap.size) s.heap H locs → lv_has ls 7 [(0, .ref (a 0)), (1, .int v57), (2, .int v58), (3, .int v59), (4, .int v60), (6, .int v61)] → mX8_fails_99 kh35 kh68 s62 v57 v58 v59 v60 v61 = some (r, τ) → W p l e (headSpec zX8_fails ({ frames := 1, cells := 0, slots := 0, locals := 22 })).room s m ([.ref (a 0), .int p1] : List Value).toArray below meth c H locs 0 0 (MQ below (va_Qi (fun r' u => r' = r ∧ u = τ) (posW (wM y a) D) (AC a 30 s.heap.size)) ([.ref (a 0), .int p1] : List Value).toArray s 0 0 (AC a 30 s.heap.size)) (F0 m 99 ls []) := by
            intro s62 v57 v58 v59 v60 v61 H locs ls hP hS hl hm
            unfold mX8_fails_99 at hm
            refine lv_iconst (v := 0) hx hb dX8_fails_99 (by decide) ?_
            exact L_100 s62 v57 v58 v59 v60 v61 0 _ _ _ hP hS (lv_sub hl [0, 1, 2, 3, 4, 5] rfl) hm
          intro s69 v63 v64 v65 v66 v67 v68 H locs ls hP hS hl hm
          have hm : bX8_fails_68 kh35 (mX8_fails_68 kh35 n) s69 v63 v64 v65 v66 v67 v68 = some (r, τ) := hm
          rw [← ekh68] at hm
          unfold bX8_fails_68 at hm
          refine lv_iload hx hb dX8_fails_68 (lv_at hl 6 rfl) ?_
          refine lv_iload_n hx hb dX8_fails_70 rfl (lv_at hl 3 rfl) ?_
          refine lv_icmp_ge (tgt := 108) hx hb dX8_fails_71 (by decide) (fun c70 => ?_) (fun c70 => ?_)
          · have hm := (if_pos c70).symm.trans hm
            exact L_108 s69 v63 v64 v65 v66 v67 _ _ _ hP hS (lv_sub hl [0, 1, 2, 3, 4, 5] rfl) hm
          · have hm := (if_neg c70).symm.trans hm
            refine lv_iload hx hb dX8_fails_74 (lv_at hl 5 rfl) ?_
            refine lv_if_eq (tgt := 99) hx hb dX8_fails_76 (by decide) (fun c71 => ?_) (fun c71 => ?_)
            · have hm := (if_pos c71).symm.trans hm
              exact L_99 s69 v63 v64 v65 v66 v68 _ _ _ hP hS (lv_sub hl [0, 1, 2, 3, 4, 6] rfl) hm
            · have hm := (if_neg c71).symm.trans hm
              refine lv_aload_n hx hb dX8_fails_79 rfl (lv_at hl 0 rfl) ?_
              refine lv_aload_n hx hb dX8_fails_80 rfl (lv_at hl 0 rfl) ?_
              refine gfX8_shown hx hb h_X8 hown hK hP l_f40 dX8_fails_81 ?_
              refine lv_iload hx hb dX8_fails_84 (lv_at hl 6 rfl) ?_
              obtain ⟨hi, hm⟩ := ok_I hm
              refine ldM_9 hx hb hK hP hi dX8_fails_86 ?_
              refine lv_iload hx hb dX8_fails_87 (lv_at hl 4 rfl) ?_
              obtain ⟨r72, h73, hm⟩ := ok_bind hm
              refine calV_i (As := [.int (s69.1 21 v68.toNatClampNeg), .int v66]) (rest := []) ⟨hx, hb, hml, hown, hts⟩ (kX8_isTrueAt l D y a t hI _ s69 (s69.1 21 v68.toNatClampNeg) v66 r72 h73) (cwV 2 hts (gAV aM_X8_134 aI_X8_isTrueAt aS_X8_isTrueAt aN_X8 aC_X8_isTrueAt) rfl rfl rfl eX8_isTrueAt ⟨Nat.le_of_ble_eq_true rfl, Nat.le_of_ble_eq_true rfl⟩) (preV_W (ci := 8) (q := (RX8, TX8, 42)) hK hP hF hS rfl (wM_0 y a s69)) rfl hl.1 rfl (Nat.le_of_ble_eq_true rfl) dX8_fails_89 ⟨Nat.zero_le _, Nat.zero_le _⟩ hS (AC_le hS.1) (fun H locs hP hS hk1 => ?_)
              refine lv_if_eq (tgt := 99) hx hb dX8_fails_92 (by decide) (fun c74 => ?_) (fun c74 => ?_)
              · have hm := (if_pos c74).symm.trans hm
                exact L_99 s69 v63 v64 v65 v66 v68 _ _ _ hP hS (lv_sub hl [0, 1, 2, 3, 4, 6] rfl) hm
              · have hm := (if_neg c74).symm.trans hm
                refine lv_iconst (v := 1) hx hb dX8_fails_95 (by decide) ?_
                refine lv_goto (tgt := 100) hx hb dX8_fails_96 (by decide) ?_
                exact L_100 s69 v63 v64 v65 v66 v68 1 _ _ _ hP hS (lv_sub hl [0, 1, 2, 3, 4, 6] rfl) hm
      have L_63 : ∀ (s80 : St) (v75 : Int32) (v76 : Int32) (v77 : Int32) (v78 : Int32) (v79 : Int32) (H : Heap) (locs : List Loc) (ls : Array Slot), va_P D vwCl (wM y a s80) H → va_S (AC a 30 s.heap.size) s.heap H locs → lv_has ls 7 [(0, .ref (a 0)), (1, .int v75), (2, .int v76), (3, .int v77), (4, .int v78)] → mX8_fails_63 kh35 s80 v75 v76 v77 v78 v79 = some (r, τ) → W p l e (headSpec zX8_fails ({ frames := 1, cells := 0, slots := 0, locals := 22 })).room s m ([.ref (a 0), .int p1] : List Value).toArray below meth c H locs 0 0 (MQ below (va_Qi (fun r' u => r' = r ∧ u = τ) (posW (wM y a) D) (AC a 30 s.heap.size)) ([.ref (a 0), .int p1] : List Value).toArray s 0 0 (AC a 30 s.heap.size)) (F0 m 63 ls [.int v79]) := by
        intro s80 v75 v76 v77 v78 v79 H locs ls hP hS hl hm
        unfold mX8_fails_63 at hm
        refine lv_istore (lv' := [(5, .int v79), (0, .ref (a 0)), (1, .int v75), (2, .int v76), (3, .int v77), (4, .int v78)]) hx hb dX8_fails_63 hl (by decide) rfl (fun ls hl => ?_)
        refine lv_iconst (v := 0) hx hb dX8_fails_65 (by decide) ?_
        refine lv_istore (lv' := [(6, .int 0), (5, .int v79), (0, .ref (a 0)), (1, .int v75), (2, .int v76), (3, .int v77), (4, .int v78)]) hx hb dX8_fails_66 hl (by decide) rfl (fun ls hl => ?_)
        exact L_68 NF s80 v75 v76 v77 v78 v79 0 _ _ _ hP hS (lv_sub hl [2, 3, 4, 5, 6, 1, 0] rfl) hm
      intro s85 v81 v82 v83 v84 H locs ls hP hS hl hm
      have hm : bX8_fails_35 (mX8_fails_35 n) s85 v81 v82 v83 v84 = some (r, τ) := hm
      rw [← ekh35] at hm
      unfold bX8_fails_35 at hm
      refine lv_iload hx hb dX8_fails_35 (lv_at hl 4 rfl) ?_
      refine lv_sipush (v := 256) hx hb dX8_fails_37 (by decide) ?_
      refine lv_icmp_ge (tgt := 186) hx hb dX8_fails_40 (by decide) (fun c86 => ?_) (fun c86 => ?_)
      · have hm := (if_pos c86).symm.trans hm
        refine lv_iload_n hx hb dX8_fails_186 rfl (lv_at hl 2 rfl) ?_
        exact W.iret (v := v82) hx hb hr (fun T hT hW => ⟨⟨v82, s85, rfl, ⟨congrArg Prod.fst (Option.some.inj hm), congrArg Prod.snd (Option.some.inj hm)⟩, by rw [posW, hT]; exact hP⟩, hS.F hT⟩) hS.2.2 dX8_fails_187
      · have hm := (if_neg c86).symm.trans hm
        refine lv_aload_n hx hb dX8_fails_43 rfl (lv_at hl 0 rfl) ?_
        refine lv_aload_n hx hb dX8_fails_44 rfl (lv_at hl 0 rfl) ?_
        refine gfX8_shown hx hb h_X8 hown hK hP l_f40 dX8_fails_45 ?_
        refine lv_iload_n hx hb dX8_fails_48 rfl (lv_at hl 1 rfl) ?_
        obtain ⟨hi, hm⟩ := ok_I hm
        refine ldM_9 hx hb hK hP hi dX8_fails_49 ?_
        refine lv_iload hx hb dX8_fails_50 (lv_at hl 4 rfl) ?_
        obtain ⟨r87, h88, hm⟩ := ok_bind hm
        refine calV_i (As := [.int (s85.1 21 v81.toNatClampNeg), .int v84]) (rest := []) ⟨hx, hb, hml, hown, hts⟩ (kX8_isTrueAt l D y a t hI _ s85 (s85.1 21 v81.toNatClampNeg) v84 r87 h88) (cwV 2 hts (gAV aM_X8_134 aI_X8_isTrueAt aS_X8_isTrueAt aN_X8 aC_X8_isTrueAt) rfl rfl rfl eX8_isTrueAt ⟨Nat.le_of_ble_eq_true rfl, Nat.le_of_ble_eq_true rfl⟩) (preV_W (ci := 8) (q := (RX8, TX8, 42)) hK hP hF hS rfl (wM_0 y a s85)) rfl hl.1 rfl (Nat.le_of_ble_eq_true rfl) dX8_fails_52 ⟨Nat.zero_le _, Nat.zero_le _⟩ hS (AC_le hS.1) (fun H locs hP hS hk1 => ?_)
        refine lv_if_ne (tgt := 62) hx hb dX8_fails_55 (by decide) (fun c89 => ?_) (fun c89 => ?_)
        · have hm := (if_neg c89).symm.trans hm
          refine lv_iconst (v := 0) hx hb dX8_fails_62 (by decide) ?_
          exact L_63 s85 v81 v82 v83 v84 0 _ _ _ hP hS (lv_sub hl [0, 1, 2, 3, 4] rfl) hm
        · have hm := (if_pos c89).symm.trans hm
          refine lv_iconst (v := 1) hx hb dX8_fails_58 (by decide) ?_
          refine lv_goto (tgt := 63) hx hb dX8_fails_59 (by decide) ?_
          exact L_63 s85 v81 v82 v83 v84 1 _ _ _ hP hS (lv_sub hl [0, 1, 2, 3, 4] rfl) hm
  unfold mX8_fails at hm
  refine lv_aload_n hx hb dX8_fails_0 rfl (lv_at hl 0 rfl) ?_
  refine lv_iconst (v := 0) hx hb dX8_fails_1 (by decide) ?_
  refine pfX8_thrown hx hb h_X8 hown hK hP hI AC_in hS l_f106 dX8_fails_2 (fun H locs hP hS => ?_)
  generalize es90 : su σ 0 (fun _ => 0) = s90 at hP
  have hm := bnd_x es90.symm hm
  refine lv_iload_n hx hb dX8_fails_5 rfl (lv_at hl 1 rfl) ?_
  refine lv_iconst (v := 0) hx hb dX8_fails_6 (by decide) ?_
  refine lv_aload_n hx hb dX8_fails_7 rfl (lv_at hl 0 rfl) ?_
  refine gfX8_lines hx hb h_X8 hown hK hP l_f199 dX8_fails_8 ?_
  refine lv_iconst (v := 1) hx hb dX8_fails_11 (by decide) ?_
  refine lv_isub hx hb dX8_fails_12 ?_
  obtain ⟨r91, h92, hm⟩ := ok_bind hm
  refine calS_i (As := [.int p1, .int 0, .int ((s90.1 6 0) - 1)]) (rest := []) ⟨hx, hb, hml, hown, hts⟩ (kX8_isIn l D y a t hI _ s90 p1 0 ((s90.1 6 0) - 1) r91 h92) (va_cwS 3 hts (gAS aM_X8_112 aT_X8_isIn aN_X8 aC_X8_isIn) rfl rfl rfl eX8_isIn ⟨Nat.le_of_ble_eq_true rfl, Nat.le_of_ble_eq_true rfl⟩) (preS_W hK hP hF hS) rfl hl.1 rfl (Nat.le_of_ble_eq_true rfl) dX8_fails_13 ⟨Nat.zero_le _, Nat.zero_le _⟩ hS (AC_le hS.1) (fun H locs hP hS hk1 => ?_)
  refine lv_if_ne (tgt := 25) hx hb dX8_fails_16 (by decide) (fun c93 => ?_) (fun c93 => ?_)
  · have hm := (if_neg c93).symm.trans hm
    refine lv_iconst (v := 0) hx hb dX8_fails_25 (by decide) ?_
    refine lv_istore_n (lv' := [(2, .int 0), (0, .ref (a 0)), (1, .int p1)]) hx hb dX8_fails_26 rfl hl (by decide) rfl (fun ls hl => ?_)
    refine lv_aload_n hx hb dX8_fails_27 rfl (lv_at hl 1 rfl) ?_
    obtain ⟨r94, h95, hm⟩ := ok_bind hm
    refine calV_i (As := []) (rest := []) ⟨hx, hb, hml, hown, hts⟩ (kX8_premisesNow l D y a t hI _ s90 r94 h95) (cwV 0 hts (gAV aM_X8_211 aI_X8_premisesNow aS_X8_premisesNow aN_X8 aC_X8_premisesNow) rfl rfl rfl eX8_premisesNow ⟨Nat.le_of_ble_eq_true rfl, Nat.le_of_ble_eq_true rfl⟩) (preV_W (ci := 8) (q := (RX8, TX8, 42)) hK hP hF hS rfl (wM_0 y a s90)) rfl hl.1 rfl (Nat.le_of_ble_eq_true rfl) dX8_fails_28 ⟨Nat.zero_le _, Nat.zero_le _⟩ hS (AC_le hS.1) (fun H locs hP hS hk1 => ?_)
    refine lv_istore_n (lv' := [(3, .int r94), (2, .int 0), (0, .ref (a 0)), (1, .int p1)]) hx hb dX8_fails_31 rfl hl (by decide) rfl (fun ls hl => ?_)
    refine lv_iconst (v := 0) hx hb dX8_fails_32 (by decide) ?_
    refine lv_istore (lv' := [(4, .int 0), (3, .int r94), (2, .int 0), (0, .ref (a 0)), (1, .int p1)]) hx hb dX8_fails_33 hl (by decide) rfl (fun ls hl => ?_)
    exact L_35 NF s90 p1 0 r94 0 _ _ _ hP hS (lv_sub hl [3, 4, 2, 1, 0] rfl) hm
  · have hm := (if_pos c93).symm.trans hm
    refine lv_aload_n hx hb dX8_fails_19 rfl (lv_at hl 0 rfl) ?_
    refine lv_iconst (v := 1) hx hb dX8_fails_20 (by decide) ?_
    obtain ⟨⟨r96, s98⟩, h97, hm⟩ := ok_bind hm
    refine calV_i (As := [.int 1]) (rest := []) ⟨hx, hb, hml, hown, hts⟩ (kX8_no l D y a t hI _ s90 s98 1 r96 h97) (cwV 1 hts (gAV aM_X8_119 aI_X8_no aS_X8_no aN_X8 aC_X8_no) rfl rfl rfl eX8_no ⟨Nat.le_of_ble_eq_true rfl, Nat.le_of_ble_eq_true rfl⟩) (preV_W (ci := 8) (q := (RX8, TX8, 42)) hK hP hF hS rfl (wM_0 y a s90)) rfl hl.1 rfl (Nat.le_of_ble_eq_true rfl) dX8_fails_21 ⟨Nat.zero_le _, Nat.zero_le _⟩ hS (AC_le hS.1) (fun H locs hP hS hk1 => ?_)
    exact W.iret (v := r96) hx hb hr (fun T hT hW => ⟨⟨r96, s98, rfl, ⟨congrArg Prod.fst (Option.some.inj hm), congrArg Prod.snd (Option.some.inj hm)⟩, by rw [posW, hT]; exact hP⟩, hS.F hT⟩) hS.2.2 dX8_fails_24
theorem eX8_reach : yX8_reach.cls = RX8 ∧ yX8_reach.cls ≠ "java/lang/invoke/MethodHandle" ∧ yX8_reach.cls ≠ "java/lang/invoke/VarHandle" ∧ (parseMethodDescriptor yX8_reach.desc).map (fun d => d.parameters.length) = some 1 := by decide +kernel
def mX8_reach (σ : St) (p1 : Int32) : Option Int32 :=
if p1 = 0 then (
some 1)
else (
if p1 = 1 then (
some (σ.1 6 0))
else (
some (σ.1 7 0)))
set_option maxHeartbeats 4000000 in
set_option maxRecDepth 100000 in
theorem kX8_reach (l : Launch) (D : va_G) (y : Nat → ClassId) (a t : Nat → Nat) (hI : AI a 30) (sz : Nat) (σ : St) (p1 : Int32) (r : Int32) (hm : mX8_reach σ p1 = some r) : Met l yX8_reach zX8_reach { frames := 0, cells := 0, slots := 0, locals := 0 } (va_Pc [.ref (a 0), .int p1] (preW (wM y a) a 30 D y t σ sz)) (va_Qi (fun r' u => r' = r ∧ u = σ) (posW (wM y a) D) (AC a 30 sz)) 0 0 (AC a 30 sz) := by
  refine Met.ofW (cc := cX8_reach) (maxL := 2) (ret := (some .int)) (by decide) rfl ?_
  intro p e s m args below meth c s₁ B hml hv
  obtain ⟨rfl, hsz, hP, hK, hF⟩ := hv
  have hx := B.exec
  have hb := B.bytes
  have hr := B.returns
  have hts := atoms_spec (ws := zX8_reach) B.pre
  have hown : s.vm.findClass RX8 = some m.cls := findClass_of_methodNamed B.named
  have hlocks := B.notSynchronized
  subst hsz
  have l_f202 := hts _ (List.mem_cons_of_mem _ aF_X8_202)
  have l_f199 := hts _ (List.mem_cons_of_mem _ aF_X8_199)
  have h_X8 : ∀ w ∈ wsX80, w.before _ s = true := fun w hw => hts w (List.mem_cons_of_mem _ (hwX8 w hw))
  have hS : va_S (AC a 30 s.heap.size) s.heap s.heap [] := va_S.rf
  have hl := lv_entry ([.ref (a 0), .int p1]) (n := 2) (Nat.le_of_ble_eq_true rfl)
  rw [lg_entry_eq]
  generalize (lg_sl ([.ref (a 0), .int p1]) ++ List.replicate (2 - (lg_sl ([.ref (a 0), .int p1])).length) Slot.unset).toArray = ls at hl ⊢
  have hl : lv_has ls 2 [(0, .ref (a 0)), (1, .int p1)] := hl
  unfold mX8_reach at hm
  refine lv_iload_n hx hb dX8_reach_0 rfl (lv_at hl 1 rfl) ?_
  refine lv_if_ne (tgt := 8) hx hb dX8_reach_1 (by decide) (fun c1 => ?_) (fun c1 => ?_)
  · have hm := (if_neg c1).symm.trans hm
    refine lv_iload_n hx hb dX8_reach_8 rfl (lv_at hl 1 rfl) ?_
    refine lv_iconst (v := 1) hx hb dX8_reach_9 (by decide) ?_
    refine lv_icmp_ne (tgt := 20) hx hb dX8_reach_10 (by decide) (fun c2 => ?_) (fun c2 => ?_)
    · have hm := (if_neg c2).symm.trans hm
      refine lv_aload_n hx hb dX8_reach_20 rfl (lv_at hl 0 rfl) ?_
      refine gfX8_boxes hx hb h_X8 hown hK hP l_f202 dX8_reach_21 ?_
      exact W.iret (v := σ.1 7 0) hx hb hr (fun T hT hW => ⟨⟨σ.1 7 0, σ, rfl, ⟨Option.some.inj hm, rfl⟩, by rw [posW, hT]; exact hP⟩, hS.F hT⟩) hS.2.2 dX8_reach_24
    · have hm := (if_pos c2).symm.trans hm
      refine lv_aload_n hx hb dX8_reach_13 rfl (lv_at hl 0 rfl) ?_
      refine gfX8_lines hx hb h_X8 hown hK hP l_f199 dX8_reach_14 ?_
      refine lv_goto (tgt := 24) hx hb dX8_reach_17 (by decide) ?_
      exact W.iret (v := σ.1 6 0) hx hb hr (fun T hT hW => ⟨⟨σ.1 6 0, σ, rfl, ⟨Option.some.inj hm, rfl⟩, by rw [posW, hT]; exact hP⟩, hS.F hT⟩) hS.2.2 dX8_reach_24
  · have hm := (if_pos c1).symm.trans hm
    refine lv_iconst (v := 1) hx hb dX8_reach_4 (by decide) ?_
    refine lv_goto (tgt := 24) hx hb dX8_reach_5 (by decide) ?_
    exact W.iret (v := 1) hx hb hr (fun T hT hW => ⟨⟨1, σ, rfl, ⟨Option.some.inj hm, rfl⟩, by rw [posW, hT]; exact hP⟩, hS.F hT⟩) hS.2.2 dX8_reach_24
theorem eX8_findHint : yX8_findHint.cls = RX8 ∧ yX8_findHint.cls ≠ "java/lang/invoke/MethodHandle" ∧ yX8_findHint.cls ≠ "java/lang/invoke/VarHandle" ∧ (parseMethodDescriptor yX8_findHint.desc).map (fun d => d.parameters.length) = some 1 := by decide +kernel
def mX8_findHint_83 (s5 : St) (v1 : Int32) (v2 : Int32) (v3 : Int32) (v4 : Int32) : Option (Int32 × St) :=
chkI 0 4 (
bnd (su s5 41 (upd (s5.1 41) (0 : Int32).toNatClampNeg v1)) fun s6 =>
chkI 1 4 (
bnd (su s6 41 (upd (s6.1 41) (1 : Int32).toNatClampNeg v2)) fun s7 =>
chkI 2 4 (
bnd (su s7 41 (upd (s7.1 41) (2 : Int32).toNatClampNeg v3)) fun s8 =>
chkI 3 4 (
bnd (su s8 41 (upd (s8.1 41) (3 : Int32).toNatClampNeg v4)) fun s9 =>
some (1, s9)))))
def mX8_findHint_134 (kh2 : St → Int32 → Int32 → Option (Int32 × St)) (s12 : St) (v10 : Int32) (v11 : Int32) : Option (Int32 × St) :=
bnd (v11 + 1) fun x13 =>
kh2 s12 v10 x13
def mX8_findHint_128 (kh2 : St → Int32 → Int32 → Option (Int32 × St)) (kh17 : St → Int32 → Int32 → Int32 → Int32 → Option (Int32 × St)) (s18 : St) (v14 : Int32) (v15 : Int32) (v16 : Int32) (v17 : Int32) : Option (Int32 × St) :=
bnd (v17 + 1) fun x19 =>
kh17 s18 v14 v15 v16 x19
def mX8_findHint_122 (kh2 : St → Int32 → Int32 → Option (Int32 × St)) (kh17 : St → Int32 → Int32 → Int32 → Int32 → Option (Int32 × St)) (kh33 : St → Int32 → Int32 → Int32 → Int32 → Int32 → Option (Int32 × St)) (s25 : St) (v20 : Int32) (v21 : Int32) (v22 : Int32) (v23 : Int32) (v24 : Int32) : Option (Int32 × St) :=
bnd (v24 + 1) fun x26 =>
kh33 s25 v20 v21 v22 v23 x26
def bX8_findHint_52 (kh2 : St → Int32 → Int32 → Option (Int32 × St)) (kh17 : St → Int32 → Int32 → Int32 → Int32 → Option (Int32 × St)) (kh33 : St → Int32 → Int32 → Int32 → Int32 → Int32 → Option (Int32 × St)) (kh52 : St → Int32 → Int32 → Int32 → Int32 → Int32 → Int32 → Option (Int32 × St)) (s33 : St) (v27 : Int32) (v28 : Int32) (v29 : Int32) (v30 : Int32) (v31 : Int32) (v32 : Int32) : Option (Int32 × St) :=
(mX8_reach s33 (v29 - v29 / 10 * 10)).bind fun r34 =>
if r34 ≤ v32 then (
mX8_findHint_122 kh2 kh17 kh33 s33 v27 v28 v29 v30 v31)
else (
(mX8_refusal s33 v28 v27 v30 v31 v32).bind fun ⟨r37, s39⟩ =>
if r37 = 0 then (
mX8_findHint_83 s39 v28 v30 v31 v32)
else (
bnd (v32 + 1) fun x41 =>
kh52 s39 v27 v28 v29 v30 v31 x41))
abbrev mX8_findHint_52 (kh2 : St → Int32 → Int32 → Option (Int32 × St)) (kh17 : St → Int32 → Int32 → Int32 → Int32 → Option (Int32 × St)) (kh33 : St → Int32 → Int32 → Int32 → Int32 → Int32 → Option (Int32 × St)) (n : Nat) : St → Int32 → Int32 → Int32 → Int32 → Int32 → Int32 → Option (Int32 × St) := fx (fun _ _ _ _ _ _ _ => none) (bX8_findHint_52 kh2 kh17 kh33) n
def bX8_findHint_33 (kh2 : St → Int32 → Int32 → Option (Int32 × St)) (kh17 : St → Int32 → Int32 → Int32 → Int32 → Option (Int32 × St)) (kh33 : St → Int32 → Int32 → Int32 → Int32 → Int32 → Option (Int32 × St)) (s47 : St) (v42 : Int32) (v43 : Int32) (v44 : Int32) (v45 : Int32) (v46 : Int32) : Option (Int32 × St) :=
(mX8_reach s47 ((v44 / 10) - (v44 / 10) / 10 * 10)).bind fun r48 =>
if r48 ≤ v46 then (
mX8_findHint_128 kh2 kh17 s47 v42 v43 v44 v45)
else (
mX8_findHint_52 kh2 kh17 kh33 NF s47 v42 v43 v44 v45 v46 0)
abbrev mX8_findHint_33 (kh2 : St → Int32 → Int32 → Option (Int32 × St)) (kh17 : St → Int32 → Int32 → Int32 → Int32 → Option (Int32 × St)) (n : Nat) : St → Int32 → Int32 → Int32 → Int32 → Int32 → Option (Int32 × St) := fx (fun _ _ _ _ _ _ => none) (bX8_findHint_33 kh2 kh17) n
def bX8_findHint_17 (kh2 : St → Int32 → Int32 → Option (Int32 × St)) (kh17 : St → Int32 → Int32 → Int32 → Int32 → Option (Int32 × St)) (s55 : St) (v51 : Int32) (v52 : Int32) (v53 : Int32) (v54 : Int32) : Option (Int32 × St) :=
(mX8_reach s55 (v53 / 100)).bind fun r56 =>
if r56 ≤ v54 then (
mX8_findHint_134 kh2 s55 v51 v52)
else (
mX8_findHint_33 kh2 kh17 NF s55 v51 v52 v53 v54 0)
abbrev mX8_findHint_17 (kh2 : St → Int32 → Int32 → Option (Int32 × St)) (n : Nat) : St → Int32 → Int32 → Int32 → Int32 → Option (Int32 × St) := fx (fun _ _ _ _ _ => none) (bX8_findHint_17 kh2) n
def bX8_findHint_2 (kh2 : St → Int32 → Int32 → Option (Int32 × St)) (s61 : St) (v59 : Int32) (v60 : Int32) : Option (Int32 × St) :=
if 13 ≤ v60 then (
some (0, s61))
else (
chkI v60 13 (
bnd (kNEEDS v60.toNatClampNeg) fun x63 =>
mX8_findHint_17 kh2 NF s61 v59 v60 x63 0))
abbrev mX8_findHint_2 (n : Nat) : St → Int32 → Int32 → Option (Int32 × St) := fx (fun _ _ _ => none) (bX8_findHint_2) n
def mX8_findHint (σ : St) (p1 : Int32) : Option (Int32 × St) :=
mX8_findHint_2 NF σ p1 0
set_option maxHeartbeats 4000000 in
set_option maxRecDepth 100000 in
theorem kX8_findHint (l : Launch) (D : va_G) (y : Nat → ClassId) (a t : Nat → Nat) (hI : AI a 30) (sz : Nat) (σ τ : St) (p1 : Int32) (r : Int32) (hm : mX8_findHint σ p1 = some (r, τ)) : Met l yX8_findHint zX8_findHint { frames := 259, cells := 0, slots := 0, locals := 5967 } (va_Pc [.ref (a 0), .int p1] (preW (wM y a) a 30 D y t σ sz)) (va_Qi (fun r' u => r' = r ∧ u = τ) (posW (wM y a) D) (AC a 30 sz)) 0 0 (AC a 30 sz) := by
  refine Met.ofW (cc := cX8_findHint) (maxL := 7) (ret := (some .boolean)) (by decide) rfl ?_
  intro p e s m args below meth c s₁ B hml hv
  obtain ⟨rfl, hsz, hP, hK, hF⟩ := hv
  have hx := B.exec
  have hb := B.bytes
  have hr := B.returns
  have hts := atoms_spec (ws := zX8_findHint) B.pre
  have hown : s.vm.findClass RX8 = some m.cls := findClass_of_methodNamed B.named
  have hlocks := B.notSynchronized
  subst hsz
  have l_f224 := hts _ (List.mem_cons_of_mem _ aF_X8_224)
  have l_f103 := hts _ (List.mem_cons_of_mem _ aF_X8_103)
  have h_X8 : ∀ w ∈ wsX80, w.before _ s = true := fun w hw => hts w (List.mem_cons_of_mem _ (hwX8 w hw))
  have hS : va_S (AC a 30 s.heap.size) s.heap s.heap [] := va_S.rf
  have hl := lv_entry ([.ref (a 0), .int p1]) (n := 7) (Nat.le_of_ble_eq_true rfl)
  rw [lg_entry_eq]
  generalize (lg_sl ([.ref (a 0), .int p1]) ++ List.replicate (7 - (lg_sl ([.ref (a 0), .int p1])).length) Slot.unset).toArray = ls at hl ⊢
  have hl : lv_has ls 7 [(0, .ref (a 0)), (1, .int p1)] := hl
  have L_83 : ∀ (s5 : St) (v1 : Int32) (v2 : Int32) (v3 : Int32) (v4 : Int32) (H : Heap) (locs : List Loc) (ls : Array Slot), va_P D vwCl (wM y a s5) H → va_S (AC a 30 s.heap.size) s.heap H locs → lv_has ls 7 [(0, .ref (a 0)), (2, .int v1), (4, .int v2), (5, .int v3), (6, .int v4)] → mX8_findHint_83 s5 v1 v2 v3 v4 = some (r, τ) → W p l e (headSpec zX8_findHint ({ frames := 259, cells := 0, slots := 0, locals := 5967 })).room s m ([.ref (a 0), .int p1] : List Value).toArray below meth c H locs 0 0 (MQ below (va_Qi (fun r' u => r' = r ∧ u = τ) (posW (wM y a) D) (AC a 30 s.heap.size)) ([.ref (a 0), .int p1] : List Value).toArray s 0 0 (AC a 30 s.heap.size)) (F0 m 83 ls []) := by
    intro s5 v1 v2 v3 v4 H locs ls hP hS hl hm
    unfold mX8_findHint_83 at hm
    refine lv_aload_n hx hb dX8_findHint_83 rfl (lv_at hl 0 rfl) ?_
    refine gfX8_hinted hx hb h_X8 hown hK hP l_f103 dX8_findHint_84 ?_
    refine lv_iconst (v := 0) hx hb dX8_findHint_87 (by decide) ?_
    refine lv_iload_n hx hb dX8_findHint_88 rfl (lv_at hl 1 rfl) ?_
    obtain ⟨hi, hm⟩ := ok_I hm
    refine stM_29 hx hb hK hP hI AC_in hS hi dX8_findHint_89 (fun H locs hP hS => ?_)
    generalize es6 : su s5 41 (upd (s5.1 41) (0 : Int32).toNatClampNeg v1) = s6 at hP
    have hm := bnd_x es6.symm hm
    refine lv_aload_n hx hb dX8_findHint_90 rfl (lv_at hl 0 rfl) ?_
    refine gfX8_hinted hx hb h_X8 hown hK hP l_f103 dX8_findHint_91 ?_
    refine lv_iconst (v := 1) hx hb dX8_findHint_94 (by decide) ?_
    refine lv_iload hx hb dX8_findHint_95 (lv_at hl 2 rfl) ?_
    obtain ⟨hi, hm⟩ := ok_I hm
    refine stM_29 hx hb hK hP hI AC_in hS hi dX8_findHint_97 (fun H locs hP hS => ?_)
    generalize es7 : su s6 41 (upd (s6.1 41) (1 : Int32).toNatClampNeg v2) = s7 at hP
    have hm := bnd_x es7.symm hm
    refine lv_aload_n hx hb dX8_findHint_98 rfl (lv_at hl 0 rfl) ?_
    refine gfX8_hinted hx hb h_X8 hown hK hP l_f103 dX8_findHint_99 ?_
    refine lv_iconst (v := 2) hx hb dX8_findHint_102 (by decide) ?_
    refine lv_iload hx hb dX8_findHint_103 (lv_at hl 3 rfl) ?_
    obtain ⟨hi, hm⟩ := ok_I hm
    refine stM_29 hx hb hK hP hI AC_in hS hi dX8_findHint_105 (fun H locs hP hS => ?_)
    generalize es8 : su s7 41 (upd (s7.1 41) (2 : Int32).toNatClampNeg v3) = s8 at hP
    have hm := bnd_x es8.symm hm
    refine lv_aload_n hx hb dX8_findHint_106 rfl (lv_at hl 0 rfl) ?_
    refine gfX8_hinted hx hb h_X8 hown hK hP l_f103 dX8_findHint_107 ?_
    refine lv_iconst (v := 3) hx hb dX8_findHint_110 (by decide) ?_
    refine lv_iload hx hb dX8_findHint_111 (lv_at hl 4 rfl) ?_
    obtain ⟨hi, hm⟩ := ok_I hm
    refine stM_29 hx hb hK hP hI AC_in hS hi dX8_findHint_113 (fun H locs hP hS => ?_)
    generalize es9 : su s8 41 (upd (s8.1 41) (3 : Int32).toNatClampNeg v4) = s9 at hP
    have hm := bnd_x es9.symm hm
    refine lv_iconst (v := 1) hx hb dX8_findHint_114 (by decide) ?_
    exact W.zret (v := 1) hx hb hr rfl (fun T hT hW => ⟨⟨1, s9, rfl, ⟨congrArg Prod.fst (Option.some.inj hm), congrArg Prod.snd (Option.some.inj hm)⟩, by rw [posW, hT]; exact hP⟩, hS.F hT⟩) hS.2.2 dX8_findHint_115
  have L_2 : ∀ (n : Nat) (s61 : St) (v59 : Int32) (v60 : Int32) (H : Heap) (locs : List Loc) (ls : Array Slot), va_P D vwCl (wM y a s61) H → va_S (AC a 30 s.heap.size) s.heap H locs → lv_has ls 7 [(0, .ref (a 0)), (1, .int v59), (2, .int v60)] → mX8_findHint_2 n s61 v59 v60 = some (r, τ) → W p l e (headSpec zX8_findHint ({ frames := 259, cells := 0, slots := 0, locals := 5967 })).room s m ([.ref (a 0), .int p1] : List Value).toArray below meth c H locs 0 0 (MQ below (va_Qi (fun r' u => r' = r ∧ u = τ) (posW (wM y a) D) (AC a 30 s.heap.size)) ([.ref (a 0), .int p1] : List Value).toArray s 0 0 (AC a 30 s.heap.size)) (F0 m 2 ls []) := by
    intro n
    induction n with
    | zero =>
      intro s61 v59 v60 H locs ls hP hS hl hm
      exact absurd (show (none : Option (Int32 × St)) = some (r, τ) from hm) (by intro h; cases h)
    | succ n ih2 =>
      obtain ⟨kh2, ekh2⟩ : ∃ z, z = mX8_findHint_2 n := ⟨_, rfl⟩
      have ih2 : ∀ (s61 : St) (v59 : Int32) (v60 : Int32) (H : Heap) (locs : List Loc) (ls : Array Slot), va_P D vwCl (wM y a s61) H → va_S (AC a 30 s.heap.size) s.heap H locs → lv_has ls 7 [(0, .ref (a 0)), (1, .int v59), (2, .int v60)] → kh2 s61 v59 v60 = some (r, τ) → W p l e (headSpec zX8_findHint ({ frames := 259, cells := 0, slots := 0, locals := 5967 })).room s m ([.ref (a 0), .int p1] : List Value).toArray below meth c H locs 0 0 (MQ below (va_Qi (fun r' u => r' = r ∧ u = τ) (posW (wM y a) D) (AC a 30 s.heap.size)) ([.ref (a 0), .int p1] : List Value).toArray s 0 0 (AC a 30 s.heap.size)) (F0 m 2 ls []) := by rw [ekh2]; exact ih2
      have L_134 : ∀ (s12 : St) (v10 : Int32) (v11 : Int32) (H : Heap) (locs : List Loc) (ls : Array Slot), va_P D vwCl (wM y a s12) H → va_S (AC a 30 s.heap.size) s.heap H locs → lv_has ls 7 [(0, .ref (a 0)), (1, .int v10), (2, .int v11)] → mX8_findHint_134 kh2 s12 v10 v11 = some (r, τ) → W p l e (headSpec zX8_findHint ({ frames := 259, cells := 0, slots := 0, locals := 5967 })).room s m ([.ref (a 0), .int p1] : List Value).toArray below meth c H locs 0 0 (MQ below (va_Qi (fun r' u => r' = r ∧ u = τ) (posW (wM y a) D) (AC a 30 s.heap.size)) ([.ref (a 0), .int p1] : List Value).toArray s 0 0 (AC a 30 s.heap.size)) (F0 m 134 ls []) := by
        intro s12 v10 v11 H locs ls hP hS hl hm
        unfold mX8_findHint_134 at hm
        obtain ⟨x13, ex13⟩ : ∃ z : Int32, z = v11 + 1 := ⟨_, rfl⟩
        have hm := bnd_x ex13 hm
        refine lv_iinc (v := x13) (lv' := [(2, .int x13), (0, .ref (a 0)), (1, .int v10)]) hx hb dX8_findHint_134 hl (k := 2) rfl (by rw [ex13]; rfl) (by decide) rfl (fun ls hl => ?_)
        refine lv_goto (tgt := 2) hx hb dX8_findHint_137 (by decide) ?_
        exact ih2 s12 v10 x13 _ _ _ hP hS (lv_sub hl [1, 2, 0] rfl) hm
      have L_17 : ∀ (n : Nat) (s55 : St) (v51 : Int32) (v52 : Int32) (v53 : Int32) (v54 : Int32) (H : Heap) (locs : List Loc) (ls : Array Slot), va_P D vwCl (wM y a s55) H → va_S (AC a 30 s.heap.size) s.heap H locs → lv_has ls 7 [(0, .ref (a 0)), (1, .int v51), (2, .int v52), (3, .int v53), (4, .int v54)] → mX8_findHint_17 kh2 n s55 v51 v52 v53 v54 = some (r, τ) → W p l e (headSpec zX8_findHint ({ frames := 259, cells := 0, slots := 0, locals := 5967 })).room s m ([.ref (a 0), .int p1] : List Value).toArray below meth c H locs 0 0 (MQ below (va_Qi (fun r' u => r' = r ∧ u = τ) (posW (wM y a) D) (AC a 30 s.heap.size)) ([.ref (a 0), .int p1] : List Value).toArray s 0 0 (AC a 30 s.heap.size)) (F0 m 17 ls []) := by
        intro n
        induction n with
        | zero =>
          intro s55 v51 v52 v53 v54 H locs ls hP hS hl hm
          exact absurd (show (none : Option (Int32 × St)) = some (r, τ) from hm) (by intro h; cases h)
        | succ n ih17 =>
          obtain ⟨kh17, ekh17⟩ : ∃ z, z = mX8_findHint_17 kh2 n := ⟨_, rfl⟩
          have ih17 : ∀ (s55 : St) (v51 : Int32) (v52 : Int32) (v53 : Int32) (v54 : Int32) (H : Heap) (locs : List Loc) (ls : Array Slot), va_P D vwCl (wM y a s55) H → va_S (AC a 30 s.heap.size) s.heap H locs → lv_has ls 7 [(0, .ref (a 0)), (1, .int v51), (2, .int v52), (3, .int v53), (4, .int v54)] → kh17 s55 v51 v52 v53 v54 = some (r, τ) → W p l e (headSpec zX8_findHint ({ frames := 259, cells := 0, slots := 0, locals := 5967 })).room s m ([.ref (a 0), .int p1] : List Value).toArray below meth c H locs 0 0 (MQ below (va_Qi (fun r' u => r' = r ∧ u = τ) (posW (wM y a) D) (AC a 30 s.heap.size)) ([.ref (a 0), .int p1] : List Value).toArray s 0 0 (AC a 30 s.heap.size)) (F0 m 17 ls []) := by rw [ekh17]; exact ih17
          have L_128 : ∀ (s18 : St) (v14 : Int32) (v15 : Int32) (v16 : Int32) (v17 : Int32) (H : Heap) (locs : List Loc) (ls : Array Slot), va_P D vwCl (wM y a s18) H → va_S (AC a 30 s.heap.size) s.heap H locs → lv_has ls 7 [(0, .ref (a 0)), (1, .int v14), (2, .int v15), (3, .int v16), (4, .int v17)] → mX8_findHint_128 kh2 kh17 s18 v14 v15 v16 v17 = some (r, τ) → W p l e (headSpec zX8_findHint ({ frames := 259, cells := 0, slots := 0, locals := 5967 })).room s m ([.ref (a 0), .int p1] : List Value).toArray below meth c H locs 0 0 (MQ below (va_Qi (fun r' u => r' = r ∧ u = τ) (posW (wM y a) D) (AC a 30 s.heap.size)) ([.ref (a 0), .int p1] : List Value).toArray s 0 0 (AC a 30 s.heap.size)) (F0 m 128 ls []) := by
            intro s18 v14 v15 v16 v17 H locs ls hP hS hl hm
            unfold mX8_findHint_128 at hm
            obtain ⟨x19, ex19⟩ : ∃ z : Int32, z = v17 + 1 := ⟨_, rfl⟩
            have hm := bnd_x ex19 hm
            refine lv_iinc (v := x19) (lv' := [(4, .int x19), (0, .ref (a 0)), (1, .int v14), (2, .int v15), (3, .int v16)]) hx hb dX8_findHint_128 hl (k := 4) rfl (by rw [ex19]; rfl) (by decide) rfl (fun ls hl => ?_)
            refine lv_goto (tgt := 17) hx hb dX8_findHint_131 (by decide) ?_
            exact ih17 s18 v14 v15 v16 x19 _ _ _ hP hS (lv_sub hl [1, 2, 3, 4, 0] rfl) hm
          have L_33 : ∀ (n : Nat) (s47 : St) (v42 : Int32) (v43 : Int32) (v44 : Int32) (v45 : Int32) (v46 : Int32) (H : Heap) (locs : List Loc) (ls : Array Slot), va_P D vwCl (wM y a s47) H → va_S (AC a 30 s.heap.size) s.heap H locs → lv_has ls 7 [(0, .ref (a 0)), (1, .int v42), (2, .int v43), (3, .int v44), (4, .int v45), (5, .int v46)] → mX8_findHint_33 kh2 kh17 n s47 v42 v43 v44 v45 v46 = some (r, τ) → W p l e (headSpec zX8_findHint ({ frames := 259, cells := 0, slots := 0, locals := 5967 })).room s m ([.ref (a 0), .int p1] : List Value).toArray below meth c H locs 0 0 (MQ below (va_Qi (fun r' u => r' = r ∧ u = τ) (posW (wM y a) D) (AC a 30 s.heap.size)) ([.ref (a 0), .int p1] : List Value).toArray s 0 0 (AC a 30 s.heap.size)) (F0 m 33 ls []) := by
            intro n
            induction n with
            | zero =>
              intro s47 v42 v43 v44 v45 v46 H locs ls hP hS hl hm
              exact absurd (show (none : Option (Int32 × St)) = some (r, τ) from hm) (by intro h; cases h)
            | succ n ih33 =>
              obtain ⟨kh33, ekh33⟩ : ∃ z, z = mX8_findHint_33 kh2 kh17 n := ⟨_, rfl⟩
              have ih33 : ∀ (s47 : St) (v42 : Int32) (v43 : Int32) (v44 : Int32) (v45 : Int32) (v46 : Int32) (H : Heap) (locs : List Loc) (ls : Array Slot), va_P D vwCl (wM y a s47) H → va_S (AC a 30 s.heap.size) s.heap H locs → lv_has ls 7 [(0, .ref (a 0)), (1, .int v42), (2, .int v43), (3, .int v44), (4, .int v45), (5, .int v46)] → kh33 s47 v42 v43 v44 v45 v46 = some (r, τ) → W p l e (headSpec zX8_findHint ({ frames := 259, cells := 0, slots := 0, locals := 5967 })).room s m ([.ref (a 0), .int p1] : List Value).toArray below meth c H locs 0 0 (MQ below (va_Qi (fun r' u => r' = r ∧ u = τ) (posW (wM y a) D) (AC a 30 s.heap.size)) ([.ref (a 0), .int p1] : List Value).toArray s 0 0 (AC a 30 s.heap.size)) (F0 m 33 ls []) := by rw [ekh33]; exact ih33
              have L_122 : ∀ (s25 : St) (v20 : Int32) (v21 : Int32) (v22 : Int32) (v23 : Int32) (v24 : Int32) (H : Heap) (locs : List Loc) (ls : Array Slot), va_P D vwCl (wM y a s25) H → va_S (AC a 30 s.heap.size) s.heap H locs → lv_has ls 7 [(0, .ref (a 0)), (1, .int v20), (2, .int v21), (3, .int v22), (4, .int v23), (5, .int v24)] → mX8_findHint_122 kh2 kh17 kh33 s25 v20 v21 v22 v23 v24 = some (r, τ) → W p l e (headSpec zX8_findHint ({ frames := 259, cells := 0, slots := 0, locals := 5967 })).room s m ([.ref (a 0), .int p1] : List Value).toArray below meth c H locs 0 0 (MQ below (va_Qi (fun r' u => r' = r ∧ u = τ) (posW (wM y a) D) (AC a 30 s.heap.size)) ([.ref (a 0), .int p1] : List Value).toArray s 0 0 (AC a 30 s.heap.size)) (F0 m 122 ls []) := by
                intro s25 v20 v21 v22 v23 v24 H locs ls hP hS hl hm
                unfold mX8_findHint_122 at hm
                obtain ⟨x26, ex26⟩ : ∃ z : Int32, z = v24 + 1 := ⟨_, rfl⟩
                have hm := bnd_x ex26 hm
                refine lv_iinc (v := x26) (lv' := [(5, .int x26), (0, .ref (a 0)), (1, .int v20), (2, .int v21), (3, .int v22), (4, .int v23)]) hx hb dX8_findHint_122 hl (k := 5) rfl (by rw [ex26]; rfl) (by decide) rfl (fun ls hl => ?_)
                refine lv_goto (tgt := 33) hx hb dX8_findHint_125 (by decide) ?_
                exact ih33 s25 v20 v21 v22 v23 x26 _ _ _ hP hS (lv_sub hl [1, 2, 3, 4, 5, 0] rfl) hm
              have L_52 : ∀ (n : Nat) (s33 : St) (v27 : Int32) (v28 : Int32) (v29 : Int32) (v30 : Int32) (v31 : Int32) (v32 : Int32) (H : Heap) (locs : List Loc) (ls : Array Slot), va_P D vwCl (wM y a s33) H → va_S (AC a 30 s.heap.size) s.heap H locs → lv_has ls 7 [(0, .ref (a 0)), (1, .int v27), (2, .int v28), (3, .int v29), (4, .int v30), (5, .int v31), (6, .int v32)] → mX8_findHint_52 kh2 kh17 kh33 n s33 v27 v28 v29 v30 v31 v32 = some (r, τ) → W p l e (headSpec zX8_findHint ({ frames := 259, cells := 0, slots := 0, locals := 5967 })).room s m ([.ref (a 0), .int p1] : List Value).toArray below meth c H locs 0 0 (MQ below (va_Qi (fun r' u => r' = r ∧ u = τ) (posW (wM y a) D) (AC a 30 s.heap.size)) ([.ref (a 0), .int p1] : List Value).toArray s 0 0 (AC a 30 s.heap.size)) (F0 m 52 ls []) := by
                intro n
                induction n with
                | zero =>
                  intro s33 v27 v28 v29 v30 v31 v32 H locs ls hP hS hl hm
                  exact absurd (show (none : Option (Int32 × St)) = some (r, τ) from hm) (by intro h; cases h)
                | succ n ih52 =>
                  obtain ⟨kh52, ekh52⟩ : ∃ z, z = mX8_findHint_52 kh2 kh17 kh33 n := ⟨_, rfl⟩
                  have ih52 : ∀ (s33 : St) (v27 : Int32) (v28 : Int32) (v29 : Int32) (v30 : Int32) (v31 : Int32) (v32 : Int32) (H : Heap) (locs : List Loc) (ls : Array Slot), va_P D vwCl (wM y a s33) H → va_S (AC a 30 s.heap.size) s.heap H locs → lv_has ls 7 [(0, .ref (a 0)), (1, .int v27), (2, .int v28), (3, .int v29), (4, .int v30), (5, .int v31), (6, .int v32)] → kh52 s33 v27 v28 v29 v30 v31 v32 = some (r, τ) → W p l e (headSpec zX8_findHint ({ frames := 259, cells := 0, slots := 0, locals := 5967 })).room s m ([.ref (a 0), .int p1] : List Value).toArray below meth c H locs 0 0 (MQ below (va_Qi (fun r' u => r' = r ∧ u = τ) (posW (wM y a) D) (AC a 30 s.heap.size)) ([.ref (a 0), .int p1] : List Value).toArray s 0 0 (AC a 30 s.heap.size)) (F0 m 52 ls []) := by rw [ekh52]; exact ih52
                  intro s33 v27 v28 v29 v30 v31 v32 H locs ls hP hS hl hm
                  have hm : bX8_findHint_52 kh2 kh17 kh33 (mX8_findHint_52 kh2 kh17 kh33 n) s33 v27 v28 v29 v30 v31 v32 = some (r, τ) := hm
                  rw [← ekh52] at hm
                  unfold bX8_findHint_52 at hm
                  refine lv_iload hx hb dX8_findHint_52 (lv_at hl 6 rfl) ?_
                  refine lv_aload_n hx hb dX8_findHint_54 rfl (lv_at hl 0 rfl) ?_
                  refine lv_iload_n hx hb dX8_findHint_55 rfl (lv_at hl 3 rfl) ?_
                  refine lv_bipush (v := 10) hx hb dX8_findHint_56 (by decide) ?_
                  refine lv_irem hx hb dX8_findHint_58 (by decide) ?_
                  obtain ⟨r34, h35, hm⟩ := ok_bind hm
                  refine calV_i (As := [.int (v29 - v29 / 10 * 10)]) (rest := [.int v32]) ⟨hx, hb, hml, hown, hts⟩ (kX8_reach l D y a t hI _ s33 (v29 - v29 / 10 * 10) r34 h35) (cwV 1 hts (gAV aM_X8_277 aI_X8_reach aS_X8_reach aN_X8 aC_X8_reach) rfl rfl rfl eX8_reach ⟨Nat.le_of_ble_eq_true rfl, Nat.le_of_ble_eq_true rfl⟩) (preV_W (ci := 8) (q := (RX8, TX8, 42)) hK hP hF hS rfl (wM_0 y a s33)) rfl hl.1 rfl (Nat.le_of_ble_eq_true rfl) dX8_findHint_59 ⟨Nat.zero_le _, Nat.zero_le _⟩ hS (AC_le hS.1) (fun H locs hP hS hk1 => ?_)
                  refine lv_icmp_ge (tgt := 122) hx hb dX8_findHint_62 (by decide) (fun c36 => ?_) (fun c36 => ?_)
                  · have hm := (if_pos c36).symm.trans hm
                    exact L_122 s33 v27 v28 v29 v30 v31 _ _ _ hP hS (lv_sub hl [0, 1, 2, 3, 4, 5] rfl) hm
                  · have hm := (if_neg c36).symm.trans hm
                    refine lv_aload_n hx hb dX8_findHint_65 rfl (lv_at hl 0 rfl) ?_
                    refine lv_iload_n hx hb dX8_findHint_66 rfl (lv_at hl 2 rfl) ?_
                    refine lv_iload_n hx hb dX8_findHint_67 rfl (lv_at hl 1 rfl) ?_
                    refine lv_iload hx hb dX8_findHint_68 (lv_at hl 4 rfl) ?_
                    refine lv_iload hx hb dX8_findHint_70 (lv_at hl 5 rfl) ?_
                    refine lv_iload hx hb dX8_findHint_72 (lv_at hl 6 rfl) ?_
                    obtain ⟨⟨r37, s39⟩, h38, hm⟩ := ok_bind hm
                    refine calV_i (As := [.int v28, .int v27, .int v30, .int v31, .int v32]) (rest := []) ⟨hx, hb, hml, hown, hts⟩ (kX8_refusal l D y a t hI _ s33 s39 v28 v27 v30 v31 v32 r37 h38) (cwV 5 hts (gAV aM_X8_259 aI_X8_refusal aS_X8_refusal aN_X8 aC_X8_refusal) rfl rfl rfl eX8_refusal ⟨Nat.le_of_ble_eq_true rfl, Nat.le_of_ble_eq_true rfl⟩) (preV_W (ci := 8) (q := (RX8, TX8, 42)) hK hP hF hS rfl (wM_0 y a s33)) rfl hl.1 rfl (Nat.le_of_ble_eq_true rfl) dX8_findHint_74 ⟨Nat.zero_le _, Nat.zero_le _⟩ hS (AC_le hS.1) (fun H locs hP hS hk1 => ?_)
                    refine lv_if_eq (tgt := 83) hx hb dX8_findHint_77 (by decide) (fun c40 => ?_) (fun c40 => ?_)
                    · have hm := (if_pos c40).symm.trans hm
                      exact L_83 s39 v28 v30 v31 v32 _ _ _ hP hS (lv_sub hl [0, 2, 4, 5, 6] rfl) hm
                    · have hm := (if_neg c40).symm.trans hm
                      refine lv_goto (tgt := 116) hx hb dX8_findHint_80 (by decide) ?_
                      obtain ⟨x41, ex41⟩ : ∃ z : Int32, z = v32 + 1 := ⟨_, rfl⟩
                      have hm := bnd_x ex41 hm
                      refine lv_iinc (v := x41) (lv' := [(6, .int x41), (0, .ref (a 0)), (1, .int v27), (2, .int v28), (3, .int v29), (4, .int v30), (5, .int v31)]) hx hb dX8_findHint_116 hl (k := 6) rfl (by rw [ex41]; rfl) (by decide) rfl (fun ls hl => ?_)
                      refine lv_goto (tgt := 52) hx hb dX8_findHint_119 (by decide) ?_
                      exact ih52 s39 v27 v28 v29 v30 v31 x41 _ _ _ hP hS (lv_sub hl [1, 2, 3, 4, 5, 6, 0] rfl) hm
              intro s47 v42 v43 v44 v45 v46 H locs ls hP hS hl hm
              have hm : bX8_findHint_33 kh2 kh17 (mX8_findHint_33 kh2 kh17 n) s47 v42 v43 v44 v45 v46 = some (r, τ) := hm
              rw [← ekh33] at hm
              unfold bX8_findHint_33 at hm
              refine lv_iload hx hb dX8_findHint_33 (lv_at hl 5 rfl) ?_
              refine lv_aload_n hx hb dX8_findHint_35 rfl (lv_at hl 0 rfl) ?_
              refine lv_iload_n hx hb dX8_findHint_36 rfl (lv_at hl 3 rfl) ?_
              refine lv_bipush (v := 10) hx hb dX8_findHint_37 (by decide) ?_
              refine lv_idiv hx hb dX8_findHint_39 (by decide) ?_
              refine lv_bipush (v := 10) hx hb dX8_findHint_40 (by decide) ?_
              refine lv_irem hx hb dX8_findHint_42 (by decide) ?_
              obtain ⟨r48, h49, hm⟩ := ok_bind hm
              refine calV_i (As := [.int ((v44 / 10) - (v44 / 10) / 10 * 10)]) (rest := [.int v46]) ⟨hx, hb, hml, hown, hts⟩ (kX8_reach l D y a t hI _ s47 ((v44 / 10) - (v44 / 10) / 10 * 10) r48 h49) (cwV 1 hts (gAV aM_X8_277 aI_X8_reach aS_X8_reach aN_X8 aC_X8_reach) rfl rfl rfl eX8_reach ⟨Nat.le_of_ble_eq_true rfl, Nat.le_of_ble_eq_true rfl⟩) (preV_W (ci := 8) (q := (RX8, TX8, 42)) hK hP hF hS rfl (wM_0 y a s47)) rfl hl.1 rfl (Nat.le_of_ble_eq_true rfl) dX8_findHint_43 ⟨Nat.zero_le _, Nat.zero_le _⟩ hS (AC_le hS.1) (fun H locs hP hS hk1 => ?_)
              refine lv_icmp_ge (tgt := 128) hx hb dX8_findHint_46 (by decide) (fun c50 => ?_) (fun c50 => ?_)
              · have hm := (if_pos c50).symm.trans hm
                exact L_128 s47 v42 v43 v44 v45 _ _ _ hP hS (lv_sub hl [0, 1, 2, 3, 4] rfl) hm
              · have hm := (if_neg c50).symm.trans hm
                refine lv_iconst (v := 0) hx hb dX8_findHint_49 (by decide) ?_
                refine lv_istore (lv' := [(6, .int 0), (0, .ref (a 0)), (1, .int v42), (2, .int v43), (3, .int v44), (4, .int v45), (5, .int v46)]) hx hb dX8_findHint_50 hl (by decide) rfl (fun ls hl => ?_)
                exact L_52 NF s47 v42 v43 v44 v45 v46 0 _ _ _ hP hS (lv_sub hl [1, 2, 3, 4, 5, 6, 0] rfl) hm
          intro s55 v51 v52 v53 v54 H locs ls hP hS hl hm
          have hm : bX8_findHint_17 kh2 (mX8_findHint_17 kh2 n) s55 v51 v52 v53 v54 = some (r, τ) := hm
          rw [← ekh17] at hm
          unfold bX8_findHint_17 at hm
          refine lv_iload hx hb dX8_findHint_17 (lv_at hl 4 rfl) ?_
          refine lv_aload_n hx hb dX8_findHint_19 rfl (lv_at hl 0 rfl) ?_
          refine lv_iload_n hx hb dX8_findHint_20 rfl (lv_at hl 3 rfl) ?_
          refine lv_bipush (v := 100) hx hb dX8_findHint_21 (by decide) ?_
          refine lv_idiv hx hb dX8_findHint_23 (by decide) ?_
          obtain ⟨r56, h57, hm⟩ := ok_bind hm
          refine calV_i (As := [.int (v53 / 100)]) (rest := [.int v54]) ⟨hx, hb, hml, hown, hts⟩ (kX8_reach l D y a t hI _ s55 (v53 / 100) r56 h57) (cwV 1 hts (gAV aM_X8_277 aI_X8_reach aS_X8_reach aN_X8 aC_X8_reach) rfl rfl rfl eX8_reach ⟨Nat.le_of_ble_eq_true rfl, Nat.le_of_ble_eq_true rfl⟩) (preV_W (ci := 8) (q := (RX8, TX8, 42)) hK hP hF hS rfl (wM_0 y a s55)) rfl hl.1 rfl (Nat.le_of_ble_eq_true rfl) dX8_findHint_24 ⟨Nat.zero_le _, Nat.zero_le _⟩ hS (AC_le hS.1) (fun H locs hP hS hk1 => ?_)
          refine lv_icmp_ge (tgt := 134) hx hb dX8_findHint_27 (by decide) (fun c58 => ?_) (fun c58 => ?_)
          · have hm := (if_pos c58).symm.trans hm
            exact L_134 s55 v51 v52 _ _ _ hP hS (lv_sub hl [0, 1, 2] rfl) hm
          · have hm := (if_neg c58).symm.trans hm
            refine lv_iconst (v := 0) hx hb dX8_findHint_30 (by decide) ?_
            refine lv_istore (lv' := [(5, .int 0), (0, .ref (a 0)), (1, .int v51), (2, .int v52), (3, .int v53), (4, .int v54)]) hx hb dX8_findHint_31 hl (by decide) rfl (fun ls hl => ?_)
            exact L_33 NF s55 v51 v52 v53 v54 0 _ _ _ hP hS (lv_sub hl [1, 2, 3, 4, 5, 0] rfl) hm
      intro s61 v59 v60 H locs ls hP hS hl hm
      have hm : bX8_findHint_2 (mX8_findHint_2 n) s61 v59 v60 = some (r, τ) := hm
      rw [← ekh2] at hm
      unfold bX8_findHint_2 at hm
      refine lv_iload_n hx hb dX8_findHint_2 rfl (lv_at hl 2 rfl) ?_
      refine lv_bipush (v := 13) hx hb dX8_findHint_3 (by decide) ?_
      refine lv_icmp_ge (tgt := 140) hx hb dX8_findHint_5 (by decide) (fun c62 => ?_) (fun c62 => ?_)
      · have hm := (if_pos c62).symm.trans hm
        refine lv_iconst (v := 0) hx hb dX8_findHint_140 (by decide) ?_
        exact W.zret (v := 0) hx hb hr rfl (fun T hT hW => ⟨⟨0, s61, rfl, ⟨congrArg Prod.fst (Option.some.inj hm), congrArg Prod.snd (Option.some.inj hm)⟩, by rw [posW, hT]; exact hP⟩, hS.F hT⟩) hS.2.2 dX8_findHint_141
      · have hm := (if_neg c62).symm.trans hm
        refine va_gets hx hb hF.2.2.2.2.1 hS hown l_f224 (fun _ h9 => h9) dX8_findHint_8 ?_
        refine lv_iload_n hx hb dX8_findHint_11 rfl (lv_at hl 2 rfl) ?_
        obtain ⟨hi, hm⟩ := ok_I hm
        refine va_ti hx hb hF.2.2.2.2.2.1 hS hi rfl dX8_findHint_12 ?_
        refine lv_topi (fun x63 ex63 => ?_)
        have hm := bnd_x ex63 hm
        refine lv_istore_n (lv' := [(3, .int x63), (0, .ref (a 0)), (1, .int v59), (2, .int v60)]) hx hb dX8_findHint_13 rfl hl (by decide) rfl (fun ls hl => ?_)
        refine lv_iconst (v := 0) hx hb dX8_findHint_14 (by decide) ?_
        refine lv_istore (lv' := [(4, .int 0), (3, .int x63), (0, .ref (a 0)), (1, .int v59), (2, .int v60)]) hx hb dX8_findHint_15 hl (by decide) rfl (fun ls hl => ?_)
        exact L_17 NF s61 v59 v60 x63 0 _ _ _ hP hS (lv_sub hl [2, 3, 4, 1, 0] rfl) hm
  unfold mX8_findHint at hm
  refine lv_iconst (v := 0) hx hb dX8_findHint_0 (by decide) ?_
  refine lv_istore_n (lv' := [(2, .int 0), (0, .ref (a 0)), (1, .int p1)]) hx hb dX8_findHint_1 rfl hl (by decide) rfl (fun ls hl => ?_)
  exact L_2 NF σ p1 0 _ _ _ hP hS (lv_sub hl [1, 2, 0] rfl) hm
theorem eX8_hint : yX8_hint.cls = RX8 ∧ yX8_hint.cls ≠ "java/lang/invoke/MethodHandle" ∧ yX8_hint.cls ≠ "java/lang/invoke/VarHandle" ∧ (parseMethodDescriptor yX8_hint.desc).map (fun d => d.parameters.length) = some 2 := by decide +kernel
def mX8_hint_22 (s1 : St) : Option (Int32 × St) :=
(mX8_no s1 1).bind fun ⟨r2, s4⟩ =>
some (r2, s4)
def mX8_hint (σ : St) (p1 : Int32) (p2 : Int32) : Option (Int32 × St) :=
bnd (su σ 0 (fun _ => 0)) fun s5 =>
(mX8_isFormula s5 p1).bind fun r6 =>
if r6 = 0 then (
mX8_hint_22 s5)
else (
(mX8_isIn s5 p2 0 3).bind fun r9 =>
if r9 = 0 then (
mX8_hint_22 s5)
else (
(mX8_findHint s5 p1).bind fun ⟨r12, s14⟩ =>
if r12 = 0 then (
some ((-1), s14))
else (
chkI p2 4 (
some (s14.1 41 p2.toNatClampNeg, s14)))))
set_option maxHeartbeats 4000000 in
set_option maxRecDepth 100000 in
theorem kX8_hint (l : Launch) (D : va_G) (y : Nat → ClassId) (a t : Nat → Nat) (hI : AI a 30) (sz : Nat) (σ τ : St) (p1 : Int32) (p2 : Int32) (r : Int32) (hm : mX8_hint σ p1 p2 = some (r, τ)) : Met l yX8_hint zX8_hint { frames := 260, cells := 0, slots := 0, locals := 5993 } (va_Pc [.ref (a 0), .int p1, .int p2] (preW (wM y a) a 30 D y t σ sz)) (va_Qi (fun r' u => r' = r ∧ u = τ) (posW (wM y a) D) (AC a 30 sz)) 0 0 (AC a 30 sz) := by
  refine Met.ofW (cc := cX8_hint) (maxL := 3) (ret := (some .int)) (by decide) rfl ?_
  intro p e s m args below meth c s₁ B hml hv
  obtain ⟨rfl, hsz, hP, hK, hF⟩ := hv
  have hx := B.exec
  have hb := B.bytes
  have hr := B.returns
  have hts := atoms_spec (ws := zX8_hint) B.pre
  have hown : s.vm.findClass RX8 = some m.cls := findClass_of_methodNamed B.named
  have hlocks := B.notSynchronized
  subst hsz
  have l_f106 := hts _ (List.mem_cons_of_mem _ aF_X8_106)
  have l_f103 := hts _ (List.mem_cons_of_mem _ aF_X8_103)
  have h_X8 : ∀ w ∈ wsX80, w.before _ s = true := fun w hw => hts w (List.mem_cons_of_mem _ (hwX8 w hw))
  have hS : va_S (AC a 30 s.heap.size) s.heap s.heap [] := va_S.rf
  have hl := lv_entry ([.ref (a 0), .int p1, .int p2]) (n := 3) (Nat.le_of_ble_eq_true rfl)
  rw [lg_entry_eq]
  generalize (lg_sl ([.ref (a 0), .int p1, .int p2]) ++ List.replicate (3 - (lg_sl ([.ref (a 0), .int p1, .int p2])).length) Slot.unset).toArray = ls at hl ⊢
  have hl : lv_has ls 3 [(0, .ref (a 0)), (1, .int p1), (2, .int p2)] := hl
  have L_22 : ∀ (s1 : St) (H : Heap) (locs : List Loc) (ls : Array Slot), va_P D vwCl (wM y a s1) H → va_S (AC a 30 s.heap.size) s.heap H locs → lv_has ls 3 [(0, .ref (a 0))] → mX8_hint_22 s1 = some (r, τ) → W p l e (headSpec zX8_hint ({ frames := 260, cells := 0, slots := 0, locals := 5993 })).room s m ([.ref (a 0), .int p1, .int p2] : List Value).toArray below meth c H locs 0 0 (MQ below (va_Qi (fun r' u => r' = r ∧ u = τ) (posW (wM y a) D) (AC a 30 s.heap.size)) ([.ref (a 0), .int p1, .int p2] : List Value).toArray s 0 0 (AC a 30 s.heap.size)) (F0 m 22 ls []) := by
    intro s1 H locs ls hP hS hl hm
    unfold mX8_hint_22 at hm
    refine lv_aload_n hx hb dX8_hint_22 rfl (lv_at hl 0 rfl) ?_
    refine lv_iconst (v := 1) hx hb dX8_hint_23 (by decide) ?_
    obtain ⟨⟨r2, s4⟩, h3, hm⟩ := ok_bind hm
    refine calV_i (As := [.int 1]) (rest := []) ⟨hx, hb, hml, hown, hts⟩ (kX8_no l D y a t hI _ s1 s4 1 r2 h3) (cwV 1 hts (gAV aM_X8_119 aI_X8_no aS_X8_no aN_X8 aC_X8_no) rfl rfl rfl eX8_no ⟨Nat.le_of_ble_eq_true rfl, Nat.le_of_ble_eq_true rfl⟩) (preV_W (ci := 8) (q := (RX8, TX8, 42)) hK hP hF hS rfl (wM_0 y a s1)) rfl hl.1 rfl (Nat.le_of_ble_eq_true rfl) dX8_hint_24 ⟨Nat.zero_le _, Nat.zero_le _⟩ hS (AC_le hS.1) (fun H locs hP hS hk1 => ?_)
    exact W.iret (v := r2) hx hb hr (fun T hT hW => ⟨⟨r2, s4, rfl, ⟨congrArg Prod.fst (Option.some.inj hm), congrArg Prod.snd (Option.some.inj hm)⟩, by rw [posW, hT]; exact hP⟩, hS.F hT⟩) hS.2.2 dX8_hint_27
  unfold mX8_hint at hm
  refine lv_aload_n hx hb dX8_hint_0 rfl (lv_at hl 0 rfl) ?_
  refine lv_iconst (v := 0) hx hb dX8_hint_1 (by decide) ?_
  refine pfX8_thrown hx hb h_X8 hown hK hP hI AC_in hS l_f106 dX8_hint_2 (fun H locs hP hS => ?_)
  generalize es5 : su σ 0 (fun _ => 0) = s5 at hP
  have hm := bnd_x es5.symm hm
  refine lv_aload_n hx hb dX8_hint_5 rfl (lv_at hl 0 rfl) ?_
  refine lv_iload_n hx hb dX8_hint_6 rfl (lv_at hl 1 rfl) ?_
  obtain ⟨r6, h7, hm⟩ := ok_bind hm
  refine calV_i (As := [.int p1]) (rest := []) ⟨hx, hb, hml, hown, hts⟩ (kX8_isFormula l D y a t hI _ s5 p1 r6 h7) (cwV 1 hts (gAV aM_X8_171 aI_X8_isFormula aS_X8_isFormula aN_X8 aC_X8_isFormula) rfl rfl rfl eX8_isFormula ⟨Nat.le_of_ble_eq_true rfl, Nat.le_of_ble_eq_true rfl⟩) (preV_W (ci := 8) (q := (RX8, TX8, 42)) hK hP hF hS rfl (wM_0 y a s5)) rfl hl.1 rfl (Nat.le_of_ble_eq_true rfl) dX8_hint_7 ⟨Nat.zero_le _, Nat.zero_le _⟩ hS (AC_le hS.1) (fun H locs hP hS hk1 => ?_)
  refine lv_if_eq (tgt := 22) hx hb dX8_hint_10 (by decide) (fun c8 => ?_) (fun c8 => ?_)
  · have hm := (if_pos c8).symm.trans hm
    exact L_22 s5 _ _ _ hP hS (lv_sub hl [0] rfl) hm
  · have hm := (if_neg c8).symm.trans hm
    refine lv_iload_n hx hb dX8_hint_13 rfl (lv_at hl 2 rfl) ?_
    refine lv_iconst (v := 0) hx hb dX8_hint_14 (by decide) ?_
    refine lv_iconst (v := 3) hx hb dX8_hint_15 (by decide) ?_
    obtain ⟨r9, h10, hm⟩ := ok_bind hm
    refine calS_i (As := [.int p2, .int 0, .int 3]) (rest := []) ⟨hx, hb, hml, hown, hts⟩ (kX8_isIn l D y a t hI _ s5 p2 0 3 r9 h10) (va_cwS 3 hts (gAS aM_X8_112 aT_X8_isIn aN_X8 aC_X8_isIn) rfl rfl rfl eX8_isIn ⟨Nat.le_of_ble_eq_true rfl, Nat.le_of_ble_eq_true rfl⟩) (preS_W hK hP hF hS) rfl hl.1 rfl (Nat.le_of_ble_eq_true rfl) dX8_hint_16 ⟨Nat.zero_le _, Nat.zero_le _⟩ hS (AC_le hS.1) (fun H locs hP hS hk1 => ?_)
    refine lv_if_ne (tgt := 28) hx hb dX8_hint_19 (by decide) (fun c11 => ?_) (fun c11 => ?_)
    · have hm := (if_neg c11).symm.trans hm
      refine lv_aload_n hx hb dX8_hint_28 rfl (lv_at hl 0 rfl) ?_
      refine lv_iload_n hx hb dX8_hint_29 rfl (lv_at hl 1 rfl) ?_
      obtain ⟨⟨r12, s14⟩, h13, hm⟩ := ok_bind hm
      refine calV_i (As := [.int p1]) (rest := []) ⟨hx, hb, hml, hown, hts⟩ (kX8_findHint l D y a t hI _ s5 s14 p1 r12 h13) (cwV 1 hts (gAV aM_X8_280 aI_X8_findHint aS_X8_findHint aN_X8 aC_X8_findHint) rfl rfl rfl eX8_findHint ⟨Nat.le_of_ble_eq_true rfl, Nat.le_of_ble_eq_true rfl⟩) (preV_W (ci := 8) (q := (RX8, TX8, 42)) hK hP hF hS rfl (wM_0 y a s5)) rfl hl.1 rfl (Nat.le_of_ble_eq_true rfl) dX8_hint_30 ⟨Nat.zero_le _, Nat.zero_le _⟩ hS (AC_le hS.1) (fun H locs hP hS hk1 => ?_)
      refine lv_if_eq (tgt := 45) hx hb dX8_hint_33 (by decide) (fun c15 => ?_) (fun c15 => ?_)
      · have hm := (if_pos c15).symm.trans hm
        refine lv_iconst (v := (-1)) hx hb dX8_hint_45 (by decide) ?_
        exact W.iret (v := (-1)) hx hb hr (fun T hT hW => ⟨⟨(-1), s14, rfl, ⟨congrArg Prod.fst (Option.some.inj hm), congrArg Prod.snd (Option.some.inj hm)⟩, by rw [posW, hT]; exact hP⟩, hS.F hT⟩) hS.2.2 dX8_hint_46
      · have hm := (if_neg c15).symm.trans hm
        refine lv_aload_n hx hb dX8_hint_36 rfl (lv_at hl 0 rfl) ?_
        refine gfX8_hinted hx hb h_X8 hown hK hP l_f103 dX8_hint_37 ?_
        refine lv_iload_n hx hb dX8_hint_40 rfl (lv_at hl 2 rfl) ?_
        obtain ⟨hi, hm⟩ := ok_I hm
        refine ldM_29 hx hb hK hP hi dX8_hint_41 ?_
        refine lv_goto (tgt := 46) hx hb dX8_hint_42 (by decide) ?_
        exact W.iret (v := s14.1 41 p2.toNatClampNeg) hx hb hr (fun T hT hW => ⟨⟨s14.1 41 p2.toNatClampNeg, s14, rfl, ⟨congrArg Prod.fst (Option.some.inj hm), congrArg Prod.snd (Option.some.inj hm)⟩, by rw [posW, hT]; exact hP⟩, hS.F hT⟩) hS.2.2 dX8_hint_46
    · have hm := (if_pos c11).symm.trans hm
      exact L_22 s5 _ _ _ hP hS (lv_sub hl [0] rfl) hm
theorem eX8_end : yX8_end.cls = RX8 ∧ yX8_end.cls ≠ "java/lang/invoke/MethodHandle" ∧ yX8_end.cls ≠ "java/lang/invoke/VarHandle" ∧ (parseMethodDescriptor yX8_end.desc).map (fun d => d.parameters.length) = some 0 := by decide +kernel
def mX8_end_44 (s1 : St) : Option (Int32 × St) :=
(mX8_no s1 1).bind fun ⟨r2, s4⟩ =>
some (r2, s4)
def mX8_end_125 (s6 : St) (v5 : Int32) : Option (Int32 × St) :=
chkI v5 16 (
bnd (su s6 32 (upd (s6.1 32) v5.toNatClampNeg (s6.1 6 0))) fun s7 =>
(mX8_look s7).bind fun ⟨r8, s10⟩ =>
chkI v5 16 (
bnd (su s10 33 (upd (s10.1 33) v5.toNatClampNeg r8)) fun s11 =>
chkI v5 16 (
bnd (su s11 34 (upd (s11.1 34) v5.toNatClampNeg 0)) fun s12 =>
bnd (su s12 10 (fun _ => (s12.1 10 0) + 1)) fun s13 =>
(mX8_clear s13).bind fun ⟨r14, s16⟩ =>
some (v5, s16))))
def mX8_end_118 (kh84 : St → Int32 → Int32 → Option (Int32 × St)) (s21 : St) (v17 : Int32) (v18 : Int32) (v19 : Int32) (v20 : Int32) : Option (Int32 × St) :=
chkI v20 32 (
bnd (su s21 31 (upd (s21.1 31) v20.toNatClampNeg v19)) fun s22 =>
bnd (v18 + 1) fun x23 =>
kh84 s22 v17 x23)
def bX8_end_84 (kh84 : St → Int32 → Int32 → Option (Int32 × St)) (s26 : St) (v24 : Int32) (v25 : Int32) : Option (Int32 × St) :=
if 2 ≤ v25 then (
mX8_end_125 s26 v24)
else (
chkI v24 16 (
if (s26.1 30 v24.toNatClampNeg) ≤ v25 then (
mX8_end_118 kh84 s26 v24 v25 (-1) ((2 * v24) + v25))
else (
chkI v25 60 (
mX8_end_118 kh84 s26 v24 v25 (s26.1 21 v25.toNatClampNeg) ((2 * v24) + v25)))))
abbrev mX8_end_84 (n : Nat) : St → Int32 → Int32 → Option (Int32 × St) := fx (fun _ _ _ => none) (bX8_end_84) n
def mX8_end (σ : St) : Option (Int32 × St) :=
bnd (su σ 0 (fun _ => 0)) fun s29 =>
if (s29.1 6 0) = 0 then (
mX8_end_44 s29)
else (
if (s29.1 8 0) = (-1) then (
chkI ((s29.1 6 0) - 1) 60 (
if (s29.1 24 ((s29.1 6 0) - 1).toNatClampNeg) = (-1) then (
if (s29.1 10 0) = 16 then (
mX8_end_44 s29)
else (
bnd (s29.1 10 0) fun x34 =>
chkI ((s29.1 6 0) - 1) 60 (
chkI x34 16 (
bnd (su s29 29 (upd (s29.1 29) x34.toNatClampNeg (s29.1 21 ((s29.1 6 0) - 1).toNatClampNeg))) fun s35 =>
(mX8_premisesNow s35).bind fun r36 =>
chkI x34 16 (
bnd (su s35 30 (upd (s35.1 30) x34.toNatClampNeg r36)) fun s38 =>
mX8_end_84 NF s38 x34 0)))))
else (
mX8_end_44 s29)))
else (
mX8_end_44 s29))
set_option maxHeartbeats 4000000 in
set_option maxRecDepth 100000 in
theorem kX8_end (l : Launch) (D : va_G) (y : Nat → ClassId) (a t : Nat → Nat) (hI : AI a 30) (sz : Nat) (σ τ : St) (r : Int32) (hm : mX8_end σ = some (r, τ)) : Met l yX8_end zX8_end { frames := 3, cells := 0, slots := 0, locals := 67 } (va_Pc [.ref (a 0)] (preW (wM y a) a 30 D y t σ sz)) (va_Qi (fun r' u => r' = r ∧ u = τ) (posW (wM y a) D) (AC a 30 sz)) 0 0 (AC a 30 sz) := by
  refine Met.ofW (cc := cX8_end) (maxL := 3) (ret := (some .int)) (by decide) rfl ?_
  intro p e s m args below meth c s₁ B hml hv
  obtain ⟨rfl, hsz, hP, hK, hF⟩ := hv
  have hx := B.exec
  have hb := B.bytes
  have hr := B.returns
  have hts := atoms_spec (ws := zX8_end) B.pre
  have hown : s.vm.findClass RX8 = some m.cls := findClass_of_methodNamed B.named
  have hlocks := B.notSynchronized
  subst hsz
  have l_f106 := hts _ (List.mem_cons_of_mem _ aF_X8_106)
  have l_f199 := hts _ (List.mem_cons_of_mem _ aF_X8_199)
  have l_f61 := hts _ (List.mem_cons_of_mem _ aF_X8_61)
  have l_f49 := hts _ (List.mem_cons_of_mem _ aF_X8_49)
  have l_f227 := hts _ (List.mem_cons_of_mem _ aF_X8_227)
  have l_f67 := hts _ (List.mem_cons_of_mem _ aF_X8_67)
  have l_f40 := hts _ (List.mem_cons_of_mem _ aF_X8_40)
  have l_f70 := hts _ (List.mem_cons_of_mem _ aF_X8_70)
  have l_f73 := hts _ (List.mem_cons_of_mem _ aF_X8_73)
  have l_f76 := hts _ (List.mem_cons_of_mem _ aF_X8_76)
  have l_f79 := hts _ (List.mem_cons_of_mem _ aF_X8_79)
  have l_f82 := hts _ (List.mem_cons_of_mem _ aF_X8_82)
  have h_X8 : ∀ w ∈ wsX80, w.before _ s = true := fun w hw => hts w (List.mem_cons_of_mem _ (hwX8 w hw))
  have hS : va_S (AC a 30 s.heap.size) s.heap s.heap [] := va_S.rf
  have hl := lv_entry ([.ref (a 0)]) (n := 3) (Nat.le_of_ble_eq_true rfl)
  rw [lg_entry_eq]
  generalize (lg_sl ([.ref (a 0)]) ++ List.replicate (3 - (lg_sl ([.ref (a 0)])).length) Slot.unset).toArray = ls at hl ⊢
  have hl : lv_has ls 3 [(0, .ref (a 0))] := hl
  have L_44 : ∀ (s1 : St) (H : Heap) (locs : List Loc) (ls : Array Slot), va_P D vwCl (wM y a s1) H → va_S (AC a 30 s.heap.size) s.heap H locs → lv_has ls 3 [(0, .ref (a 0))] → mX8_end_44 s1 = some (r, τ) → W p l e (headSpec zX8_end ({ frames := 3, cells := 0, slots := 0, locals := 67 })).room s m ([.ref (a 0)] : List Value).toArray below meth c H locs 0 0 (MQ below (va_Qi (fun r' u => r' = r ∧ u = τ) (posW (wM y a) D) (AC a 30 s.heap.size)) ([.ref (a 0)] : List Value).toArray s 0 0 (AC a 30 s.heap.size)) (F0 m 44 ls []) := by
    intro s1 H locs ls hP hS hl hm
    unfold mX8_end_44 at hm
    refine lv_aload_n hx hb dX8_end_44 rfl (lv_at hl 0 rfl) ?_
    refine lv_iconst (v := 1) hx hb dX8_end_45 (by decide) ?_
    obtain ⟨⟨r2, s4⟩, h3, hm⟩ := ok_bind hm
    refine calV_i (As := [.int 1]) (rest := []) ⟨hx, hb, hml, hown, hts⟩ (kX8_no l D y a t hI _ s1 s4 1 r2 h3) (cwV 1 hts (gAV aM_X8_119 aI_X8_no aS_X8_no aN_X8 aC_X8_no) rfl rfl rfl eX8_no ⟨Nat.le_of_ble_eq_true rfl, Nat.le_of_ble_eq_true rfl⟩) (preV_W (ci := 8) (q := (RX8, TX8, 42)) hK hP hF hS rfl (wM_0 y a s1)) rfl hl.1 rfl (Nat.le_of_ble_eq_true rfl) dX8_end_46 ⟨Nat.zero_le _, Nat.zero_le _⟩ hS (AC_le hS.1) (fun H locs hP hS hk1 => ?_)
    exact W.iret (v := r2) hx hb hr (fun T hT hW => ⟨⟨r2, s4, rfl, ⟨congrArg Prod.fst (Option.some.inj hm), congrArg Prod.snd (Option.some.inj hm)⟩, by rw [posW, hT]; exact hP⟩, hS.F hT⟩) hS.2.2 dX8_end_49
  have L_125 : ∀ (s6 : St) (v5 : Int32) (H : Heap) (locs : List Loc) (ls : Array Slot), va_P D vwCl (wM y a s6) H → va_S (AC a 30 s.heap.size) s.heap H locs → lv_has ls 3 [(0, .ref (a 0)), (1, .int v5)] → mX8_end_125 s6 v5 = some (r, τ) → W p l e (headSpec zX8_end ({ frames := 3, cells := 0, slots := 0, locals := 67 })).room s m ([.ref (a 0)] : List Value).toArray below meth c H locs 0 0 (MQ below (va_Qi (fun r' u => r' = r ∧ u = τ) (posW (wM y a) D) (AC a 30 s.heap.size)) ([.ref (a 0)] : List Value).toArray s 0 0 (AC a 30 s.heap.size)) (F0 m 125 ls []) := by
    intro s6 v5 H locs ls hP hS hl hm
    unfold mX8_end_125 at hm
    refine lv_aload_n hx hb dX8_end_125 rfl (lv_at hl 0 rfl) ?_
    refine gfX8_proofLines hx hb h_X8 hown hK hP l_f76 dX8_end_126 ?_
    refine lv_iload_n hx hb dX8_end_129 rfl (lv_at hl 1 rfl) ?_
    refine lv_aload_n hx hb dX8_end_130 rfl (lv_at hl 0 rfl) ?_
    refine gfX8_lines hx hb h_X8 hown hK hP l_f199 dX8_end_131 ?_
    obtain ⟨hi, hm⟩ := ok_I hm
    refine stM_20 hx hb hK hP hI AC_in hS hi dX8_end_134 (fun H locs hP hS => ?_)
    generalize es7 : su s6 32 (upd (s6.1 32) v5.toNatClampNeg (s6.1 6 0)) = s7 at hP
    have hm := bnd_x es7.symm hm
    refine lv_aload_n hx hb dX8_end_135 rfl (lv_at hl 0 rfl) ?_
    refine gfX8_proofNeeded hx hb h_X8 hown hK hP l_f79 dX8_end_136 ?_
    refine lv_iload_n hx hb dX8_end_139 rfl (lv_at hl 1 rfl) ?_
    refine lv_aload_n hx hb dX8_end_140 rfl (lv_at hl 0 rfl) ?_
    obtain ⟨⟨r8, s10⟩, h9, hm⟩ := ok_bind hm
    refine calV_i (As := []) (rest := [.int v5, .ref (a 21)]) ⟨hx, hb, hml, hown, hts⟩ (kX8_look l D y a t hI _ s7 s10 r8 h9) (cwV 0 hts (gAV aM_X8_265 aI_X8_look aS_X8_look aN_X8 aC_X8_look) rfl rfl rfl eX8_look ⟨Nat.le_of_ble_eq_true rfl, Nat.le_of_ble_eq_true rfl⟩) (preV_W (ci := 8) (q := (RX8, TX8, 42)) hK hP hF hS rfl (wM_0 y a s7)) rfl hl.1 rfl (Nat.le_of_ble_eq_true rfl) dX8_end_141 ⟨Nat.zero_le _, Nat.zero_le _⟩ hS (AC_le hS.1) (fun H locs hP hS hk1 => ?_)
    obtain ⟨hi, hm⟩ := ok_I hm
    refine stM_21 hx hb hK hP hI AC_in hS hi dX8_end_144 (fun H locs hP hS => ?_)
    generalize es11 : su s10 33 (upd (s10.1 33) v5.toNatClampNeg r8) = s11 at hP
    have hm := bnd_x es11.symm hm
    refine lv_aload_n hx hb dX8_end_145 rfl (lv_at hl 0 rfl) ?_
    refine gfX8_uses hx hb h_X8 hown hK hP l_f82 dX8_end_146 ?_
    refine lv_iload_n hx hb dX8_end_149 rfl (lv_at hl 1 rfl) ?_
    refine lv_iconst (v := 0) hx hb dX8_end_150 (by decide) ?_
    obtain ⟨hi, hm⟩ := ok_I hm
    refine stM_22 hx hb hK hP hI AC_in hS hi dX8_end_151 (fun H locs hP hS => ?_)
    generalize es12 : su s11 34 (upd (s11.1 34) v5.toNatClampNeg 0) = s12 at hP
    have hm := bnd_x es12.symm hm
    refine lv_aload_n hx hb dX8_end_152 rfl (lv_at hl 0 rfl) ?_
    refine lv_dup hx hb dX8_end_153 rfl ?_
    refine gfX8_theorems hx hb h_X8 hown hK hP l_f227 dX8_end_154 ?_
    refine lv_iconst (v := 1) hx hb dX8_end_157 (by decide) ?_
    refine lv_iadd hx hb dX8_end_158 ?_
    refine pfX8_theorems hx hb h_X8 hown hK hP hI AC_in hS l_f227 dX8_end_159 (fun H locs hP hS => ?_)
    generalize es13 : su s12 10 (fun _ => (s12.1 10 0) + 1) = s13 at hP
    have hm := bnd_x es13.symm hm
    refine lv_aload_n hx hb dX8_end_162 rfl (lv_at hl 0 rfl) ?_
    obtain ⟨⟨r14, s16⟩, h15, hm⟩ := ok_bind hm
    refine calV_i (As := []) (rest := []) ⟨hx, hb, hml, hown, hts⟩ (kX8_clear l D y a t hI _ s13 s16 r14 h15) (cwV 0 hts (gAV aM_X8_208 aI_X8_clear aS_X8_clear aN_X8 aC_X8_clear) rfl rfl rfl eX8_clear ⟨Nat.le_of_ble_eq_true rfl, Nat.le_of_ble_eq_true rfl⟩) (preV_W (ci := 8) (q := (RX8, TX8, 42)) hK hP hF hS rfl (wM_0 y a s13)) rfl hl.1 rfl (Nat.le_of_ble_eq_true rfl) dX8_end_163 ⟨Nat.zero_le _, Nat.zero_le _⟩ hS (AC_le hS.1) (fun H locs hP hS hk1 => ?_)
    refine lv_pop hx hb dX8_end_166 rfl ?_
    refine lv_iload_n hx hb dX8_end_167 rfl (lv_at hl 1 rfl) ?_
    exact W.iret (v := v5) hx hb hr (fun T hT hW => ⟨⟨v5, s16, rfl, ⟨congrArg Prod.fst (Option.some.inj hm), congrArg Prod.snd (Option.some.inj hm)⟩, by rw [posW, hT]; exact hP⟩, hS.F hT⟩) hS.2.2 dX8_end_168
  have L_84 : ∀ (n : Nat) (s26 : St) (v24 : Int32) (v25 : Int32) (H : Heap) (locs : List Loc) (ls : Array Slot), va_P D vwCl (wM y a s26) H → va_S (AC a 30 s.heap.size) s.heap H locs → lv_has ls 3 [(0, .ref (a 0)), (1, .int v24), (2, .int v25)] → mX8_end_84 n s26 v24 v25 = some (r, τ) → W p l e (headSpec zX8_end ({ frames := 3, cells := 0, slots := 0, locals := 67 })).room s m ([.ref (a 0)] : List Value).toArray below meth c H locs 0 0 (MQ below (va_Qi (fun r' u => r' = r ∧ u = τ) (posW (wM y a) D) (AC a 30 s.heap.size)) ([.ref (a 0)] : List Value).toArray s 0 0 (AC a 30 s.heap.size)) (F0 m 84 ls []) := by
    intro n
    induction n with
    | zero =>
      intro s26 v24 v25 H locs ls hP hS hl hm
      exact absurd (show (none : Option (Int32 × St)) = some (r, τ) from hm) (by intro h; cases h)
    | succ n ih84 =>
      obtain ⟨kh84, ekh84⟩ : ∃ z, z = mX8_end_84 n := ⟨_, rfl⟩
      have ih84 : ∀ (s26 : St) (v24 : Int32) (v25 : Int32) (H : Heap) (locs : List Loc) (ls : Array Slot), va_P D vwCl (wM y a s26) H → va_S (AC a 30 s.heap.size) s.heap H locs → lv_has ls 3 [(0, .ref (a 0)), (1, .int v24), (2, .int v25)] → kh84 s26 v24 v25 = some (r, τ) → W p l e (headSpec zX8_end ({ frames := 3, cells := 0, slots := 0, locals := 67 })).room s m ([.ref (a 0)] : List Value).toArray below meth c H locs 0 0 (MQ below (va_Qi (fun r' u => r' = r ∧ u = τ) (posW (wM y a) D) (AC a 30 s.heap.size)) ([.ref (a 0)] : List Value).toArray s 0 0 (AC a 30 s.heap.size)) (F0 m 84 ls []) := by rw [ekh84]; exact ih84
      have L_118 : ∀ (s21 : St) (v17 : Int32) (v18 : Int32) (v19 : Int32) (v20 : Int32) (H : Heap) (locs : List Loc) (ls : Array Slot), va_P D vwCl (wM y a s21) H → va_S (AC a 30 s.heap.size) s.heap H locs → lv_has ls 3 [(0, .ref (a 0)), (1, .int v17), (2, .int v18)] → mX8_end_118 kh84 s21 v17 v18 v19 v20 = some (r, τ) → W p l e (headSpec zX8_end ({ frames := 3, cells := 0, slots := 0, locals := 67 })).room s m ([.ref (a 0)] : List Value).toArray below meth c H locs 0 0 (MQ below (va_Qi (fun r' u => r' = r ∧ u = τ) (posW (wM y a) D) (AC a 30 s.heap.size)) ([.ref (a 0)] : List Value).toArray s 0 0 (AC a 30 s.heap.size)) (F0 m 118 ls [.int v19, .int v20, .ref (a 19)]) := by
        intro s21 v17 v18 v19 v20 H locs ls hP hS hl hm
        unfold mX8_end_118 at hm
        obtain ⟨hi, hm⟩ := ok_I hm
        refine stM_19 hx hb hK hP hI AC_in hS hi dX8_end_118 (fun H locs hP hS => ?_)
        generalize es22 : su s21 31 (upd (s21.1 31) v20.toNatClampNeg v19) = s22 at hP
        have hm := bnd_x es22.symm hm
        obtain ⟨x23, ex23⟩ : ∃ z : Int32, z = v18 + 1 := ⟨_, rfl⟩
        have hm := bnd_x ex23 hm
        refine lv_iinc (v := x23) (lv' := [(2, .int x23), (0, .ref (a 0)), (1, .int v17)]) hx hb dX8_end_119 hl (k := 2) rfl (by rw [ex23]; rfl) (by decide) rfl (fun ls hl => ?_)
        refine lv_goto (tgt := 84) hx hb dX8_end_122 (by decide) ?_
        exact ih84 s22 v17 x23 _ _ _ hP hS (lv_sub hl [1, 2, 0] rfl) hm
      intro s26 v24 v25 H locs ls hP hS hl hm
      have hm : bX8_end_84 (mX8_end_84 n) s26 v24 v25 = some (r, τ) := hm
      rw [← ekh84] at hm
      unfold bX8_end_84 at hm
      refine lv_iload_n hx hb dX8_end_84 rfl (lv_at hl 2 rfl) ?_
      refine lv_iconst (v := 2) hx hb dX8_end_85 (by decide) ?_
      refine lv_icmp_ge (tgt := 125) hx hb dX8_end_86 (by decide) (fun c27 => ?_) (fun c27 => ?_)
      · have hm := (if_pos c27).symm.trans hm
        exact L_125 s26 v24 _ _ _ hP hS (lv_sub hl [0, 1] rfl) hm
      · have hm := (if_neg c27).symm.trans hm
        refine lv_aload_n hx hb dX8_end_89 rfl (lv_at hl 0 rfl) ?_
        refine gfX8_premise hx hb h_X8 hown hK hP l_f73 dX8_end_90 ?_
        refine lv_iconst (v := 2) hx hb dX8_end_93 (by decide) ?_
        refine lv_iload_n hx hb dX8_end_94 rfl (lv_at hl 1 rfl) ?_
        refine lv_imul hx hb dX8_end_95 ?_
        refine lv_iload_n hx hb dX8_end_96 rfl (lv_at hl 2 rfl) ?_
        refine lv_iadd hx hb dX8_end_97 ?_
        refine lv_iload_n hx hb dX8_end_98 rfl (lv_at hl 2 rfl) ?_
        refine lv_aload_n hx hb dX8_end_99 rfl (lv_at hl 0 rfl) ?_
        refine gfX8_premises hx hb h_X8 hown hK hP l_f70 dX8_end_100 ?_
        refine lv_iload_n hx hb dX8_end_103 rfl (lv_at hl 1 rfl) ?_
        obtain ⟨hi, hm⟩ := ok_I hm
        refine ldM_18 hx hb hK hP hi dX8_end_104 ?_
        refine lv_icmp_ge (tgt := 117) hx hb dX8_end_105 (by decide) (fun c28 => ?_) (fun c28 => ?_)
        · have hm := (if_pos c28).symm.trans hm
          refine lv_iconst (v := (-1)) hx hb dX8_end_117 (by decide) ?_
          exact L_118 s26 v24 v25 (-1) ((2 * v24) + v25) _ _ _ hP hS (lv_sub hl [0, 1, 2] rfl) hm
        · have hm := (if_neg c28).symm.trans hm
          refine lv_aload_n hx hb dX8_end_108 rfl (lv_at hl 0 rfl) ?_
          refine gfX8_shown hx hb h_X8 hown hK hP l_f40 dX8_end_109 ?_
          refine lv_iload_n hx hb dX8_end_112 rfl (lv_at hl 2 rfl) ?_
          obtain ⟨hi, hm⟩ := ok_I hm
          refine ldM_9 hx hb hK hP hi dX8_end_113 ?_
          refine lv_goto (tgt := 118) hx hb dX8_end_114 (by decide) ?_
          exact L_118 s26 v24 v25 (s26.1 21 v25.toNatClampNeg) ((2 * v24) + v25) _ _ _ hP hS (lv_sub hl [0, 1, 2] rfl) hm
  unfold mX8_end at hm
  refine lv_aload_n hx hb dX8_end_0 rfl (lv_at hl 0 rfl) ?_
  refine lv_iconst (v := 0) hx hb dX8_end_1 (by decide) ?_
  refine pfX8_thrown hx hb h_X8 hown hK hP hI AC_in hS l_f106 dX8_end_2 (fun H locs hP hS => ?_)
  generalize es29 : su σ 0 (fun _ => 0) = s29 at hP
  have hm := bnd_x es29.symm hm
  refine lv_aload_n hx hb dX8_end_5 rfl (lv_at hl 0 rfl) ?_
  refine gfX8_lines hx hb h_X8 hown hK hP l_f199 dX8_end_6 ?_
  refine lv_if_eq (tgt := 44) hx hb dX8_end_9 (by decide) (fun c30 => ?_) (fun c30 => ?_)
  · have hm := (if_pos c30).symm.trans hm
    exact L_44 s29 _ _ _ hP hS (lv_sub hl [0] rfl) hm
  · have hm := (if_neg c30).symm.trans hm
    refine lv_aload_n hx hb dX8_end_12 rfl (lv_at hl 0 rfl) ?_
    refine gfX8_inner hx hb h_X8 hown hK hP l_f61 dX8_end_13 ?_
    refine lv_iconst (v := (-1)) hx hb dX8_end_16 (by decide) ?_
    refine lv_icmp_ne (tgt := 44) hx hb dX8_end_17 (by decide) (fun c31 => ?_) (fun c31 => ?_)
    · have hm := (if_neg c31).symm.trans hm
      exact L_44 s29 _ _ _ hP hS (lv_sub hl [0] rfl) hm
    · have hm := (if_pos c31).symm.trans hm
      refine lv_aload_n hx hb dX8_end_20 rfl (lv_at hl 0 rfl) ?_
      refine gfX8_boxOf hx hb h_X8 hown hK hP l_f49 dX8_end_21 ?_
      refine lv_aload_n hx hb dX8_end_24 rfl (lv_at hl 0 rfl) ?_
      refine gfX8_lines hx hb h_X8 hown hK hP l_f199 dX8_end_25 ?_
      refine lv_iconst (v := 1) hx hb dX8_end_28 (by decide) ?_
      refine lv_isub hx hb dX8_end_29 ?_
      obtain ⟨hi, hm⟩ := ok_I hm
      refine ldM_12 hx hb hK hP hi dX8_end_30 ?_
      refine lv_iconst (v := (-1)) hx hb dX8_end_31 (by decide) ?_
      refine lv_icmp_ne (tgt := 44) hx hb dX8_end_32 (by decide) (fun c32 => ?_) (fun c32 => ?_)
      · have hm := (if_neg c32).symm.trans hm
        exact L_44 s29 _ _ _ hP hS (lv_sub hl [0] rfl) hm
      · have hm := (if_pos c32).symm.trans hm
        refine lv_aload_n hx hb dX8_end_35 rfl (lv_at hl 0 rfl) ?_
        refine gfX8_theorems hx hb h_X8 hown hK hP l_f227 dX8_end_36 ?_
        refine lv_bipush (v := 16) hx hb dX8_end_39 (by decide) ?_
        refine lv_icmp_ne (tgt := 50) hx hb dX8_end_41 (by decide) (fun c33 => ?_) (fun c33 => ?_)
        · have hm := (if_neg c33).symm.trans hm
          refine lv_aload_n hx hb dX8_end_50 rfl (lv_at hl 0 rfl) ?_
          refine gfX8_theorems hx hb h_X8 hown hK hP l_f227 dX8_end_51 ?_
          refine lv_topi (fun x34 ex34 => ?_)
          have hm := bnd_x ex34 hm
          refine lv_istore_n (lv' := [(1, .int x34), (0, .ref (a 0))]) hx hb dX8_end_54 rfl hl (by decide) rfl (fun ls hl => ?_)
          refine lv_aload_n hx hb dX8_end_55 rfl (lv_at hl 1 rfl) ?_
          refine gfX8_conclusions hx hb h_X8 hown hK hP l_f67 dX8_end_56 ?_
          refine lv_iload_n hx hb dX8_end_59 rfl (lv_at hl 0 rfl) ?_
          refine lv_aload_n hx hb dX8_end_60 rfl (lv_at hl 1 rfl) ?_
          refine gfX8_shown hx hb h_X8 hown hK hP l_f40 dX8_end_61 ?_
          refine lv_aload_n hx hb dX8_end_64 rfl (lv_at hl 1 rfl) ?_
          refine gfX8_lines hx hb h_X8 hown hK hP l_f199 dX8_end_65 ?_
          refine lv_iconst (v := 1) hx hb dX8_end_68 (by decide) ?_
          refine lv_isub hx hb dX8_end_69 ?_
          obtain ⟨hi, hm⟩ := ok_I hm
          refine ldM_9 hx hb hK hP hi dX8_end_70 ?_
          obtain ⟨hi, hm⟩ := ok_I hm
          refine stM_17 hx hb hK hP hI AC_in hS hi dX8_end_71 (fun H locs hP hS => ?_)
          generalize es35 : su s29 29 (upd (s29.1 29) x34.toNatClampNeg (s29.1 21 ((s29.1 6 0) - 1).toNatClampNeg)) = s35 at hP
          have hm := bnd_x es35.symm hm
          refine lv_aload_n hx hb dX8_end_72 rfl (lv_at hl 1 rfl) ?_
          refine gfX8_premises hx hb h_X8 hown hK hP l_f70 dX8_end_73 ?_
          refine lv_iload_n hx hb dX8_end_76 rfl (lv_at hl 0 rfl) ?_
          refine lv_aload_n hx hb dX8_end_77 rfl (lv_at hl 1 rfl) ?_
          obtain ⟨r36, h37, hm⟩ := ok_bind hm
          refine calV_i (As := []) (rest := [.int x34, .ref (a 18)]) ⟨hx, hb, hml, hown, hts⟩ (kX8_premisesNow l D y a t hI _ s35 r36 h37) (cwV 0 hts (gAV aM_X8_211 aI_X8_premisesNow aS_X8_premisesNow aN_X8 aC_X8_premisesNow) rfl rfl rfl eX8_premisesNow ⟨Nat.le_of_ble_eq_true rfl, Nat.le_of_ble_eq_true rfl⟩) (preV_W (ci := 8) (q := (RX8, TX8, 42)) hK hP hF hS rfl (wM_0 y a s35)) rfl hl.1 rfl (Nat.le_of_ble_eq_true rfl) dX8_end_78 ⟨Nat.zero_le _, Nat.zero_le _⟩ hS (AC_le hS.1) (fun H locs hP hS hk1 => ?_)
          obtain ⟨hi, hm⟩ := ok_I hm
          refine stM_18 hx hb hK hP hI AC_in hS hi dX8_end_81 (fun H locs hP hS => ?_)
          generalize es38 : su s35 30 (upd (s35.1 30) x34.toNatClampNeg r36) = s38 at hP
          have hm := bnd_x es38.symm hm
          refine lv_iconst (v := 0) hx hb dX8_end_82 (by decide) ?_
          refine lv_istore_n (lv' := [(2, .int 0), (1, .int x34), (0, .ref (a 0))]) hx hb dX8_end_83 rfl hl (by decide) rfl (fun ls hl => ?_)
          exact L_84 NF s38 x34 0 _ _ _ hP hS (lv_sub hl [2, 1, 0] rfl) hm
        · have hm := (if_pos c33).symm.trans hm
          exact L_44 s29 _ _ _ hP hS (lv_sub hl [0] rfl) hm
theorem eX8_theoremTold : yX8_theoremTold.cls = RX8 ∧ yX8_theoremTold.cls ≠ "java/lang/invoke/MethodHandle" ∧ yX8_theoremTold.cls ≠ "java/lang/invoke/VarHandle" ∧ (parseMethodDescriptor yX8_theoremTold.desc).map (fun d => d.parameters.length) = some 2 := by decide +kernel
def mX8_theoremTold (σ : St) (p1 : Int32) (p2 : Int32) : Option (Int32 × St) :=
bnd (su σ 42 (fun _ => 0)) fun s1 =>
chkI p1 16 (
chkI 0 7 (
bnd (su s1 42 (upd (s1.1 42) (0 : Int32).toNatClampNeg (s1.1 29 p1.toNatClampNeg))) fun s2 =>
chkI p1 16 (
chkI 1 7 (
bnd (su s2 42 (upd (s2.1 42) (1 : Int32).toNatClampNeg (s2.1 30 p1.toNatClampNeg))) fun s3 =>
chkI (2 * p1) 32 (
chkI 2 7 (
bnd (su s3 42 (upd (s3.1 42) (2 : Int32).toNatClampNeg (s3.1 31 (2 * p1).toNatClampNeg))) fun s4 =>
chkI ((2 * p1) + 1) 32 (
chkI 3 7 (
bnd (su s4 42 (upd (s4.1 42) (3 : Int32).toNatClampNeg (s4.1 31 ((2 * p1) + 1).toNatClampNeg))) fun s5 =>
chkI p1 16 (
chkI 4 7 (
bnd (su s5 42 (upd (s5.1 42) (4 : Int32).toNatClampNeg (s5.1 32 p1.toNatClampNeg))) fun s6 =>
chkI p1 16 (
chkI 5 7 (
bnd (su s6 42 (upd (s6.1 42) (5 : Int32).toNatClampNeg (s6.1 33 p1.toNatClampNeg))) fun s7 =>
chkI p1 16 (
chkI 6 7 (
bnd (su s7 42 (upd (s7.1 42) (6 : Int32).toNatClampNeg (s7.1 34 p1.toNatClampNeg))) fun s8 =>
chkI p2 7 (
some (s8.1 42 p2.toNatClampNeg, s8))))))))))))))))
set_option maxHeartbeats 4000000 in
set_option maxRecDepth 100000 in
theorem kX8_theoremTold (l : Launch) (D : va_G) (y : Nat → ClassId) (a t : Nat → Nat) (hI : AI a 30) (sz : Nat) (σ τ : St) (p1 : Int32) (p2 : Int32) (r : Int32) (hm : mX8_theoremTold σ p1 p2 = some (r, τ)) : Met l yX8_theoremTold zX8_theoremTold { frames := 0, cells := 1, slots := 7, locals := 0 } (va_Pc [.ref (a 0), .int p1, .int p2] (preW (wM y a) a 30 D y t σ sz)) (va_Qi (fun r' u => r' = r ∧ u = τ) (posW (wM y a) D) (AC a 30 sz)) 1 7 (AC a 30 sz) := by
  refine Met.ofW (cc := cX8_theoremTold) (maxL := 4) (ret := (some .int)) (by decide) rfl ?_
  intro p e s m args below meth c s₁ B hml hv
  obtain ⟨rfl, hsz, hP, hK, hF⟩ := hv
  have hx := B.exec
  have hb := B.bytes
  have hr := B.returns
  have hts := atoms_spec (ws := zX8_theoremTold) B.pre
  have hown : s.vm.findClass RX8 = some m.cls := findClass_of_methodNamed B.named
  have hlocks := B.notSynchronized
  subst hsz
  have l_arr := hts _ (List.mem_cons_of_mem _ aA_int)
  have l_f67 := hts _ (List.mem_cons_of_mem _ aF_X8_67)
  have l_f70 := hts _ (List.mem_cons_of_mem _ aF_X8_70)
  have l_f73 := hts _ (List.mem_cons_of_mem _ aF_X8_73)
  have l_f76 := hts _ (List.mem_cons_of_mem _ aF_X8_76)
  have l_f79 := hts _ (List.mem_cons_of_mem _ aF_X8_79)
  have l_f82 := hts _ (List.mem_cons_of_mem _ aF_X8_82)
  have h_X8 : ∀ w ∈ wsX80, w.before _ s = true := fun w hw => hts w (List.mem_cons_of_mem _ (hwX8 w hw))
  have hS : va_S (AC a 30 s.heap.size) s.heap s.heap [] := va_S.rf
  have hl := lv_entry ([.ref (a 0), .int p1, .int p2]) (n := 4) (Nat.le_of_ble_eq_true rfl)
  rw [lg_entry_eq]
  generalize (lg_sl ([.ref (a 0), .int p1, .int p2]) ++ List.replicate (4 - (lg_sl ([.ref (a 0), .int p1, .int p2])).length) Slot.unset).toArray = ls at hl ⊢
  have hl : lv_has ls 4 [(0, .ref (a 0)), (1, .int p1), (2, .int p2)] := hl
  unfold mX8_theoremTold at hm
  refine lv_bipush (v := 7) hx hb dX8_theoremTold_0 (by decide) ?_
  refine nwN (n := 7) hx hb l_arr hK hP hI AC_in hS AC_new (by decide) rfl (Nat.le_of_ble_eq_true rfl) (Nat.le_of_ble_eq_true rfl) (Nat.le_of_ble_eq_true rfl) dX8_theoremTold_2 (fun q H hIq hAq hP hS => ?_)
  refine W.widen (k := 1) (n := 7) (by decide) (by decide) ?_
  generalize es1 : su σ 42 (fun _ => 0) = s1 at hP
  have hm := bnd_x es1.symm hm
  refine lv_dup hx hb dX8_theoremTold_4 rfl ?_
  refine lv_iconst (v := 0) hx hb dX8_theoremTold_5 (by decide) ?_
  refine lv_aload_n hx hb dX8_theoremTold_6 rfl (lv_at hl 0 rfl) ?_
  refine gfNX8_conclusions hx hb h_X8 hown hK hP l_f67 dX8_theoremTold_7 ?_
  refine lv_iload_n hx hb dX8_theoremTold_10 rfl (lv_at hl 1 rfl) ?_
  obtain ⟨hi, hm⟩ := ok_I hm
  refine ldN_17 hx hb hK hP hi dX8_theoremTold_11 ?_
  obtain ⟨hi, hm⟩ := ok_I hm
  refine stN_30 hx hb hK hP hIq hAq hS hi dX8_theoremTold_12 (fun H locs hP hS => ?_)
  generalize es2 : su s1 42 (upd (s1.1 42) (0 : Int32).toNatClampNeg (s1.1 29 p1.toNatClampNeg)) = s2 at hP
  have hm := bnd_x es2.symm hm
  refine lv_dup hx hb dX8_theoremTold_13 rfl ?_
  refine lv_iconst (v := 1) hx hb dX8_theoremTold_14 (by decide) ?_
  refine lv_aload_n hx hb dX8_theoremTold_15 rfl (lv_at hl 0 rfl) ?_
  refine gfNX8_premises hx hb h_X8 hown hK hP l_f70 dX8_theoremTold_16 ?_
  refine lv_iload_n hx hb dX8_theoremTold_19 rfl (lv_at hl 1 rfl) ?_
  obtain ⟨hi, hm⟩ := ok_I hm
  refine ldN_18 hx hb hK hP hi dX8_theoremTold_20 ?_
  obtain ⟨hi, hm⟩ := ok_I hm
  refine stN_30 hx hb hK hP hIq hAq hS hi dX8_theoremTold_21 (fun H locs hP hS => ?_)
  generalize es3 : su s2 42 (upd (s2.1 42) (1 : Int32).toNatClampNeg (s2.1 30 p1.toNatClampNeg)) = s3 at hP
  have hm := bnd_x es3.symm hm
  refine lv_dup hx hb dX8_theoremTold_22 rfl ?_
  refine lv_iconst (v := 2) hx hb dX8_theoremTold_23 (by decide) ?_
  refine lv_aload_n hx hb dX8_theoremTold_24 rfl (lv_at hl 0 rfl) ?_
  refine gfNX8_premise hx hb h_X8 hown hK hP l_f73 dX8_theoremTold_25 ?_
  refine lv_iconst (v := 2) hx hb dX8_theoremTold_28 (by decide) ?_
  refine lv_iload_n hx hb dX8_theoremTold_29 rfl (lv_at hl 1 rfl) ?_
  refine lv_imul hx hb dX8_theoremTold_30 ?_
  obtain ⟨hi, hm⟩ := ok_I hm
  refine ldN_19 hx hb hK hP hi dX8_theoremTold_31 ?_
  obtain ⟨hi, hm⟩ := ok_I hm
  refine stN_30 hx hb hK hP hIq hAq hS hi dX8_theoremTold_32 (fun H locs hP hS => ?_)
  generalize es4 : su s3 42 (upd (s3.1 42) (2 : Int32).toNatClampNeg (s3.1 31 (2 * p1).toNatClampNeg)) = s4 at hP
  have hm := bnd_x es4.symm hm
  refine lv_dup hx hb dX8_theoremTold_33 rfl ?_
  refine lv_iconst (v := 3) hx hb dX8_theoremTold_34 (by decide) ?_
  refine lv_aload_n hx hb dX8_theoremTold_35 rfl (lv_at hl 0 rfl) ?_
  refine gfNX8_premise hx hb h_X8 hown hK hP l_f73 dX8_theoremTold_36 ?_
  refine lv_iconst (v := 2) hx hb dX8_theoremTold_39 (by decide) ?_
  refine lv_iload_n hx hb dX8_theoremTold_40 rfl (lv_at hl 1 rfl) ?_
  refine lv_imul hx hb dX8_theoremTold_41 ?_
  refine lv_iconst (v := 1) hx hb dX8_theoremTold_42 (by decide) ?_
  refine lv_iadd hx hb dX8_theoremTold_43 ?_
  obtain ⟨hi, hm⟩ := ok_I hm
  refine ldN_19 hx hb hK hP hi dX8_theoremTold_44 ?_
  obtain ⟨hi, hm⟩ := ok_I hm
  refine stN_30 hx hb hK hP hIq hAq hS hi dX8_theoremTold_45 (fun H locs hP hS => ?_)
  generalize es5 : su s4 42 (upd (s4.1 42) (3 : Int32).toNatClampNeg (s4.1 31 ((2 * p1) + 1).toNatClampNeg)) = s5 at hP
  have hm := bnd_x es5.symm hm
  refine lv_dup hx hb dX8_theoremTold_46 rfl ?_
  refine lv_iconst (v := 4) hx hb dX8_theoremTold_47 (by decide) ?_
  refine lv_aload_n hx hb dX8_theoremTold_48 rfl (lv_at hl 0 rfl) ?_
  refine gfNX8_proofLines hx hb h_X8 hown hK hP l_f76 dX8_theoremTold_49 ?_
  refine lv_iload_n hx hb dX8_theoremTold_52 rfl (lv_at hl 1 rfl) ?_
  obtain ⟨hi, hm⟩ := ok_I hm
  refine ldN_20 hx hb hK hP hi dX8_theoremTold_53 ?_
  obtain ⟨hi, hm⟩ := ok_I hm
  refine stN_30 hx hb hK hP hIq hAq hS hi dX8_theoremTold_54 (fun H locs hP hS => ?_)
  generalize es6 : su s5 42 (upd (s5.1 42) (4 : Int32).toNatClampNeg (s5.1 32 p1.toNatClampNeg)) = s6 at hP
  have hm := bnd_x es6.symm hm
  refine lv_dup hx hb dX8_theoremTold_55 rfl ?_
  refine lv_iconst (v := 5) hx hb dX8_theoremTold_56 (by decide) ?_
  refine lv_aload_n hx hb dX8_theoremTold_57 rfl (lv_at hl 0 rfl) ?_
  refine gfNX8_proofNeeded hx hb h_X8 hown hK hP l_f79 dX8_theoremTold_58 ?_
  refine lv_iload_n hx hb dX8_theoremTold_61 rfl (lv_at hl 1 rfl) ?_
  obtain ⟨hi, hm⟩ := ok_I hm
  refine ldN_21 hx hb hK hP hi dX8_theoremTold_62 ?_
  obtain ⟨hi, hm⟩ := ok_I hm
  refine stN_30 hx hb hK hP hIq hAq hS hi dX8_theoremTold_63 (fun H locs hP hS => ?_)
  generalize es7 : su s6 42 (upd (s6.1 42) (5 : Int32).toNatClampNeg (s6.1 33 p1.toNatClampNeg)) = s7 at hP
  have hm := bnd_x es7.symm hm
  refine lv_dup hx hb dX8_theoremTold_64 rfl ?_
  refine lv_bipush (v := 6) hx hb dX8_theoremTold_65 (by decide) ?_
  refine lv_aload_n hx hb dX8_theoremTold_67 rfl (lv_at hl 0 rfl) ?_
  refine gfNX8_uses hx hb h_X8 hown hK hP l_f82 dX8_theoremTold_68 ?_
  refine lv_iload_n hx hb dX8_theoremTold_71 rfl (lv_at hl 1 rfl) ?_
  obtain ⟨hi, hm⟩ := ok_I hm
  refine ldN_22 hx hb hK hP hi dX8_theoremTold_72 ?_
  obtain ⟨hi, hm⟩ := ok_I hm
  refine stN_30 hx hb hK hP hIq hAq hS hi dX8_theoremTold_73 (fun H locs hP hS => ?_)
  generalize es8 : su s7 42 (upd (s7.1 42) (6 : Int32).toNatClampNeg (s7.1 34 p1.toNatClampNeg)) = s8 at hP
  have hm := bnd_x es8.symm hm
  refine lv_astore_n (lv' := [(3, .ref q), (0, .ref (a 0)), (1, .int p1), (2, .int p2)]) hx hb dX8_theoremTold_74 rfl hl (by decide) rfl (fun ls hl => ?_)
  refine lv_aload_n hx hb dX8_theoremTold_75 rfl (lv_at hl 0 rfl) ?_
  refine lv_iload_n hx hb dX8_theoremTold_76 rfl (lv_at hl 3 rfl) ?_
  obtain ⟨hi, hm⟩ := ok_I hm
  refine ldN_30 hx hb hK hP hi dX8_theoremTold_77 ?_
  exact W.iret (v := s8.1 42 p2.toNatClampNeg) hx hb hr (fun T hT hW => ⟨⟨s8.1 42 p2.toNatClampNeg, s8, rfl, ⟨congrArg Prod.fst (Option.some.inj hm), congrArg Prod.snd (Option.some.inj hm)⟩, by rw [posW, hT]; exact (wN_sub hP)⟩, hS.F hT⟩) hS.2.2 dX8_theoremTold_78
