/-- a divisor is looked at -/
def chkD {β : Type} (y : Int32) (x : Option β) : Option β := if y = 0 then none else x
theorem ok_D {β : Type} {y : Int32} {x : Option β} {r : β} (h : chkD y x = some r) : ¬ y = 0 ∧ x = some r := by
  unfold chkD at h
  by_cases hc : y = 0
  · rw [if_pos hc] at h; cases h
  · rw [if_neg hc] at h; exact ⟨hc, h⟩
def preX (y : Nat → ClassId) (a : Nat → Nat) (D : va_G) (t : Nat → Nat) (z L : Nat) (xs : Nat → Int32) (σ : St) (sz : Nat) (U : State) : Prop :=
  preW (wC y a) a 37 D y t σ sz U ∧ va_X z L xs U U.heap ∧ z < U.heap.size ∧ ¬ AC a 37 U.heap.size z
theorem preX_blind {y : Nat → ClassId} {a : Nat → Nat} {D : va_G} {t : Nat → Nat} {z L : Nat} {xs : Nat → Int32} {σ : St} {sz : Nat} {av : List Value} : FrameBlind (va_Pc av (preX y a D t z L xs σ sz)) := by
  intro b U g mk q
  obtain ⟨q0, q1, q2, q3, q4⟩ := q
  have h := preW_blind (av := av) b U g mk ⟨q0, q1⟩
  exact ⟨q0, h.2, va_X.moved (U := U.calling g mk b) (Vm.Alike.refl U.vm) q2, q3, q4⟩
theorem preX_W {s : State} {H : Heap} {locs : List Loc} {y : Nat → ClassId} {a : Nat → Nat} {D : va_G} {t : Nat → Nat} {z L : Nat} {xs : Nat → Int32} {σ : St} (hK : va_K D vwCl (tysA y) s) (hP : va_P D vwCl (wC y a σ) H) (hF : SF t (AC a 37 s.heap.size) s) (hS : va_S (AC a 37 s.heap.size) s.heap H locs)
    (hX : va_X z L xs s s.heap) (hzl : z < s.heap.size) (hzA : ¬ AC a 37 s.heap.size z) {As : List Value} : PreS s H (va_Pc As (preX y a D t z L xs σ H.size)) As :=
  ⟨preX_blind, fun U hU hW => ⟨rfl, ⟨by rw [hU], by rw [hU]; exact hP, va_K.moved hW.alike hK, hF.next hW.alike hU hS (AC_le hS.1)⟩,
    by rw [hU]; exact va_X.moved hW.alike (hX.kept (hS.2.1 z hzl hzA)), by rw [hU]; exact Nat.lt_of_lt_of_le hzl hS.1, by rw [hU]; exact fun h => hzA (AC_le hS.1 z h)⟩⟩

theorem eL_below : yL_below.cls ≠ "java/lang/invoke/MethodHandle" ∧ yL_below.cls ≠ "java/lang/invoke/VarHandle" ∧ (parseMethodDescriptor yL_below.desc).map (fun d => d.parameters.length) = some 2 := by decide +kernel
theorem eL_cell : yL_cell.cls ≠ "java/lang/invoke/MethodHandle" ∧ yL_cell.cls ≠ "java/lang/invoke/VarHandle" ∧ (parseMethodDescriptor yL_cell.desc).map (fun d => d.parameters.length) = some 2 := by decide +kernel
def mL_below (σ : St) (p1 : Int32) (p2 : Int32) : Option Int32 :=
chkD p2 (
some ((p1 &&& 2147483647) - (p1 &&& 2147483647) / p2 * p2))
set_option maxHeartbeats 4000000 in
set_option maxRecDepth 100000 in
theorem kL_below (l : Launch) (D : va_G) (y : Nat → ClassId) (a t : Nat → Nat) (hI : AI a 37) (sz : Nat) (σ : St) (p1 : Int32) (p2 : Int32) (r : Int32) (hm : mL_below σ p1 p2 = some r) : Met l yL_below zL_below { frames := 0, cells := 0, slots := 0, locals := 0 } (va_Pc [.int p1, .int p2] (preW (wC y a) a 37 D y t σ sz)) (va_Qi (fun r' u => r' = r ∧ u = σ) (posW (wC y a) D) (AC a 37 sz)) 0 0 (AC a 37 sz) := by
  refine Met.ofW (cc := cL_below) (maxL := 2) (ret := (some .int)) (by decide) rfl ?_
  intro p e s m args below meth c s₁ B hml hv
  obtain ⟨rfl, hsz, hP, hK, hF⟩ := hv
  have hx := B.exec
  have hb := B.bytes
  have hr := B.returns
  have hts := atoms_spec (ws := zL_below) B.pre
  have hown : s.vm.findClass RL = some m.cls := findClass_of_methodNamed B.named
  have hlocks := B.notSynchronized
  subst hsz
  have l_c7 := hts _ (List.mem_cons_of_mem _ aK_L_7)
  have hS : va_S (AC a 37 s.heap.size) s.heap s.heap [] := va_S.rf
  have hl := lv_entry ([.int p1, .int p2]) (n := 2) (Nat.le_of_ble_eq_true rfl)
  rw [lg_entry_eq]
  generalize (lg_sl ([.int p1, .int p2]) ++ List.replicate (2 - (lg_sl ([.int p1, .int p2])).length) Slot.unset).toArray = ls at hl ⊢
  have hl : lv_has ls 2 [(0, .int p1), (1, .int p2)] := hl
  unfold mL_below at hm
  refine lv_iload_n hx hb dL_below_0 rfl (lv_at hl 0 rfl) ?_
  refine lv_ldc (v := 2147483647) hx hb hown l_c7 dL_below_1 ?_
  refine lv_iand hx hb dL_below_3 ?_
  refine lv_iload_n hx hb dL_below_4 rfl (lv_at hl 1 rfl) ?_
  obtain ⟨hd, hm⟩ := ok_D hm
  refine lv_irem hx hb dL_below_5 hd ?_
  exact W.iret (v := (p1 &&& 2147483647) - (p1 &&& 2147483647) / p2 * p2) hx hb hr (fun T hT hW => ⟨⟨(p1 &&& 2147483647) - (p1 &&& 2147483647) / p2 * p2, σ, rfl, ⟨Option.some.inj hm, rfl⟩, by rw [posW, hT]; exact hP⟩, hS.F hT⟩) hS.2.2 dL_below_6
def mL_cell (xs : Nat → Int32) (L : Nat) (k : Int32) : Option Int32 :=
if Int32.ofNat L ≤ k then some (790386105 * (k + 3)) else chkI k L (some (xs k.toNatClampNeg))
set_option maxHeartbeats 4000000 in
set_option maxRecDepth 100000 in
theorem kL_cell (l : Launch) (D : va_G) (y : Nat → ClassId) (a t : Nat → Nat) (z L : Nat) (xs : Nat → Int32) (sz : Nat) (σ : St) (k r : Int32) (hm : mL_cell xs L k = some r) : Met l yL_cell zL_cell { frames := 0, cells := 0, slots := 0, locals := 0 } (va_Pc [.ref z, .int k] (preX y a D t z L xs σ sz)) (va_Qi (fun r' u => r' = r ∧ u = σ) (posW (wC y a) D) (AC a 37 sz)) 0 0 (AC a 37 sz) := by
  refine Met.ofW (cc := cL_cell) (maxL := 2) (ret := (some .int)) (by decide) rfl ?_
  intro p e s m args below meth c s₁ B hml hv
  obtain ⟨rfl, ⟨hsz, hP, hK, hF⟩, hX, hzl, hzA⟩ := hv
  have hx := B.exec
  have hb := B.bytes
  have hr := B.returns
  have hts := atoms_spec (ws := zL_cell) B.pre
  have hown : s.vm.findClass RL = some m.cls := findClass_of_methodNamed B.named
  have hlocks := B.notSynchronized
  subst hsz
  have l_c8 := hts _ (List.mem_cons_of_mem _ aK_L_8)
  have hS : va_S (AC a 37 s.heap.size) s.heap s.heap [] := va_S.rf
  have hl := lv_entry ([.ref z, .int k]) (n := 2) (Nat.le_of_ble_eq_true rfl)
  rw [lg_entry_eq]
  generalize (lg_sl ([.ref z, .int k]) ++ List.replicate (2 - (lg_sl ([.ref z, .int k])).length) Slot.unset).toArray = ls at hl ⊢
  have hl : lv_has ls 2 [(0, .ref z), (1, .int k)] := hl
  unfold mL_cell at hm
  refine lv_iload_n hx hb dL_cell_0 rfl (lv_at hl 1 rfl) ?_
  refine lv_aload_n hx hb dL_cell_1 rfl (lv_at hl 0 rfl) ?_
  refine va_slen hx hb hX hzl hzA hS dL_cell_2 ?_
  refine lv_icmp_ge (tgt := 12) hx hb dL_cell_3 (by decide) (fun c1 => ?_) (fun c1 => ?_)
  · have hm := (if_pos c1).symm.trans hm
    refine lv_ldc (v := 790386105) hx hb hown l_c8 dL_cell_12 ?_
    refine lv_iload_n hx hb dL_cell_14 rfl (lv_at hl 1 rfl) ?_
    refine lv_iconst (v := 3) hx hb dL_cell_15 (by decide) ?_
    refine lv_iadd hx hb dL_cell_16 ?_
    refine lv_imul hx hb dL_cell_17 ?_
    exact W.iret (v := 790386105 * (k + 3)) hx hb hr (fun T hT hW => ⟨⟨_, σ, rfl, ⟨Option.some.inj hm, rfl⟩, by rw [posW, hT]; exact hP⟩, hS.F hT⟩) hS.2.2 dL_cell_18
  · have hm := (if_neg c1).symm.trans hm
    obtain ⟨hi, hm⟩ := ok_I hm
    refine lv_aload_n hx hb dL_cell_6 rfl (lv_at hl 0 rfl) ?_
    refine lv_iload_n hx hb dL_cell_7 rfl (lv_at hl 1 rfl) ?_
    refine va_sld hx hb hX hzl hzA hS hi dL_cell_8 ?_
    refine lv_goto (tgt := 18) hx hb dL_cell_9 (by decide) ?_
    exact W.iret (v := xs k.toNatClampNeg) hx hb hr (fun T hT hW => ⟨⟨_, σ, rfl, ⟨Option.some.inj hm, rfl⟩, by rw [posW, hT]; exact hP⟩, hS.F hT⟩) hS.2.2 dL_cell_18
def mL_law_890 (xs : Nat → Int32) (L : Nat) (s3 : St) (v1 : Int64) (v2 : Int32) : Option Unit :=
(mX7_count s3 7).bind fun ⟨r4, s6⟩ =>
if r4 = v2 then (
(mX7_thrift s6).bind fun r8 =>
if (Op.cmpValue (FP.dcmp r8 FP.dconst0) .l) ≤ 0 then (
none)
else (
(mX7_thrift s6).bind fun r11 =>
if 0 < (Op.cmpValue (FP.dcmp r11 FP.dconst1) .g) then (
none)
else (
if 0 < v2 then (
some ())
else (
(mX7_begin s6).bind fun ⟨r15, s17⟩ =>
if r15 < 0 then (
none)
else (
(mX7_digest s17).bind fun ⟨r19, s21⟩ =>
if (lg_cmp r19 v1) = 0 then (
some ())
else (
none))))))
else (
none)
def mL_law_884 (xs : Nat → Int32) (L : Nat) (kh127 : St → Int32 → Int64 → Int32 → Int32 → Option Unit) (s27 : St) (v23 : Int32) (v24 : Int64) (v25 : Int32) (v26 : Int32) : Option Unit :=
bnd (v26 + 1) fun x28 =>
kh127 s27 v23 v24 v25 x28
def mL_law_881 (xs : Nat → Int32) (L : Nat) (kh127 : St → Int32 → Int64 → Int32 → Int32 → Option Unit) (s33 : St) (v29 : Int32) (v30 : Int64) (v31 : Int32) (v32 : Int32) : Option Unit :=
bnd (v31 + 1) fun x34 =>
mL_law_884 xs L kh127 s33 v29 v30 x34 v32
def mL_law_875 (xs : Nat → Int32) (L : Nat) (kh127 : St → Int32 → Int64 → Int32 → Int32 → Option Unit) (kh790 : St → Int32 → Int64 → Int32 → Int32 → Int32 → Int32 → Option Unit) (s41 : St) (v35 : Int32) (v36 : Int64) (v37 : Int32) (v38 : Int32) (v39 : Int32) (v40 : Int32) : Option Unit :=
bnd (v40 + 1) fun x42 =>
kh790 s41 v35 v36 v37 v38 v39 x42
def mL_law_818 (xs : Nat → Int32) (L : Nat) (kh127 : St → Int32 → Int64 → Int32 → Int32 → Option Unit) (kh790 : St → Int32 → Int64 → Int32 → Int32 → Int32 → Int32 → Option Unit) (s50 : St) (v43 : Int32) (v44 : Int64) (v45 : Int32) (v46 : Int32) (v47 : Int32) (v48 : Int32) (v49 : Int32) : Option Unit :=
(mX7_instance s50 v45 v47 v48).bind fun ⟨r51, s53⟩ =>
if v49 = 0 then (
if r51 = (-1) then (
mL_law_875 xs L kh127 kh790 s53 v43 v44 v45 v46 v47 v48)
else (
none))
else (
if r51 < 0 then (
none)
else (
(mX7_formula s53 r51 0).bind fun r57 =>
if r57 = 0 then (
(mX7_formula s53 r51 1).bind fun r60 =>
if r60 = v48 then (
mL_law_875 xs L kh127 kh790 s53 v43 v44 v45 v46 v47 v48)
else (
none))
else (
none)))
def bL_law_790 (xs : Nat → Int32) (L : Nat) (kh127 : St → Int32 → Int64 → Int32 → Int32 → Option Unit) (kh790 : St → Int32 → Int64 → Int32 → Int32 → Int32 → Int32 → Option Unit) (s69 : St) (v63 : Int32) (v64 : Int64) (v65 : Int32) (v66 : Int32) (v67 : Int32) (v68 : Int32) : Option Unit :=
if 8 ≤ v68 then (
mL_law_881 xs L kh127 s69 v63 v64 v65 v66)
else (
(mX7_formula s69 v67 3).bind fun r71 =>
if ((r71 >>> (v68 &&& 31)) &&& 1) = 1 then (
mL_law_818 xs L kh127 kh790 s69 v63 v64 v65 v66 v67 v68 1)
else (
mL_law_818 xs L kh127 kh790 s69 v63 v64 v65 v66 v67 v68 0))
abbrev mL_law_790 (xs : Nat → Int32) (L : Nat) (kh127 : St → Int32 → Int64 → Int32 → Int32 → Option Unit) (n : Nat) : St → Int32 → Int64 → Int32 → Int32 → Int32 → Int32 → Option Unit := fx (fun _ _ _ _ _ _ _ => none) (bL_law_790 xs L kh127) n
def mL_law_787 (xs : Nat → Int32) (L : Nat) (kh127 : St → Int32 → Int64 → Int32 → Int32 → Option Unit) (s79 : St) (v74 : Int32) (v75 : Int64) (v76 : Int32) (v77 : Int32) (v78 : Int32) : Option Unit :=
mL_law_790 xs L kh127 NF s79 v74 v75 v76 v77 v78 0
def mL_law_750 (xs : Nat → Int32) (L : Nat) (kh127 : St → Int32 → Int64 → Int32 → Int32 → Option Unit) (s86 : St) (v80 : Int32) (v81 : Int64) (v82 : Int32) (v83 : Int32) (v84 : Int32) (v85 : Int32) : Option Unit :=
if v85 = 0 then (
(mX7_step s86 13 v84 v82 0 0).bind fun ⟨r88, s90⟩ =>
if r88 = 0 then (
(mX7_fails s90 0).bind fun r92 =>
if r92 = 0 then (
(mX7_undo s90).bind fun ⟨r95, s97⟩ =>
if r95 = 0 then (
mL_law_787 xs L kh127 s97 v80 v81 v82 v83 v84)
else (
none))
else (
none))
else (
none))
else (
mL_law_787 xs L kh127 s86 v80 v81 v82 v83 v84)
def mL_law_630 (xs : Nat → Int32) (L : Nat) (kh127 : St → Int32 → Int64 → Int32 → Int32 → Option Unit) (s105 : St) (v99 : Int32) (v100 : Int64) (v101 : Int32) (v102 : Int32) (v103 : Int32) (v104 : Int32) : Option Unit :=
if v104 = 0 then (
mL_law_884 xs L kh127 s105 v99 v100 v101 v102)
else (
(mL_below s105 (v103 >>> (8 &&& 31)) 4).bind fun r107 =>
if r107 = 0 then (
if 16 ≤ v101 then (
mL_law_884 xs L kh127 s105 v99 v100 v101 v102)
else (
(mX7_count s105 3).bind fun ⟨r111, s113⟩ =>
(mX7_line s113 (r111 - 1) 0).bind fun ⟨r114, s116⟩ =>
(mX7_count s116 6).bind fun ⟨r117, s119⟩ =>
(mX7_end s119).bind fun ⟨r120, s122⟩ =>
if r120 = v101 then (
(mX7_theorem s122 v101 0).bind fun r124 =>
if r124 = r114 then (
(mX7_theorem s122 v101 1).bind fun r127 =>
if r127 = r117 then (
(mX7_theorem s122 v101 5).bind fun r130 =>
(mX7_theorem s122 v101 4).bind fun r132 =>
if r130 ≤ r132 then (
if r117 = 0 then (
(mX7_formula s122 r114 4).bind fun r136 =>
if r136 = 256 then (
mL_law_750 xs L kh127 s122 v99 v100 v101 v102 r114 r117)
else (
none))
else (
mL_law_750 xs L kh127 s122 v99 v100 v101 v102 r114 r117))
else (
none))
else (
none))
else (
none))
else (
none)))
else (
mL_law_884 xs L kh127 s105 v99 v100 v101 v102))
def mL_law_629 (xs : Nat → Int32) (L : Nat) (kh127 : St → Int32 → Int64 → Int32 → Int32 → Option Unit) (s144 : St) (v139 : Int32) (v140 : Int64) (v141 : Int32) (v142 : Int32) (v143 : Int32) : Option Unit :=
mL_law_630 xs L kh127 s144 v139 v140 v141 v142 v143 0
def mL_law_594 (xs : Nat → Int32) (L : Nat) (kh127 : St → Int32 → Int64 → Int32 → Int32 → Option Unit) (s150 : St) (v145 : Int32) (v146 : Int64) (v147 : Int32) (v148 : Int32) (v149 : Int32) : Option Unit :=
(mX7_count s150 3).bind fun ⟨r151, s153⟩ =>
if r151 ≤ 0 then (
mL_law_629 xs L kh127 s153 v145 v146 v147 v148 v149)
else (
(mX7_count s153 5).bind fun ⟨r155, s157⟩ =>
if r155 = 0 then (
(mX7_count s157 3).bind fun ⟨r159, s161⟩ =>
(mX7_line s161 (r159 - 1) 5).bind fun ⟨r162, s164⟩ =>
if 0 ≤ r162 then (
mL_law_629 xs L kh127 s164 v145 v146 v147 v148 v149)
else (
mL_law_630 xs L kh127 s164 v145 v146 v147 v148 v149 1))
else (
mL_law_629 xs L kh127 s157 v145 v146 v147 v148 v149))
def mL_law_553 (xs : Nat → Int32) (L : Nat) (kh127 : St → Int32 → Int64 → Int32 → Int32 → Option Unit) (s171 : St) (v166 : Int32) (v167 : Int64) (v168 : Int32) (v169 : Int32) (v170 : Int32) : Option Unit :=
(mX7_count s171 8).bind fun ⟨r172, s174⟩ =>
(mX7_count s174 3).bind fun ⟨r175, s177⟩ =>
if r175 < r172 then (
none)
else (
(mX7_count s177 3).bind fun ⟨r179, s181⟩ =>
if r179 ≤ 0 then (
mL_law_594 xs L kh127 s181 v166 v167 v168 v169 v170)
else (
(mX7_count s181 3).bind fun ⟨r183, s185⟩ =>
(mX7_line s185 (r183 - 1) 7).bind fun ⟨r186, s188⟩ =>
if r186 = 1 then (
mL_law_594 xs L kh127 s188 v166 v167 v168 v169 v170)
else (
none)))
def mL_law_547 (xs : Nat → Int32) (L : Nat) (kh127 : St → Int32 → Int64 → Int32 → Int32 → Option Unit) (kh487 : St → Int32 → Int64 → Int32 → Int32 → Int32 → Int32 → Option Unit) (s196 : St) (v190 : Int32) (v191 : Int64) (v192 : Int32) (v193 : Int32) (v194 : Int32) (v195 : Int32) : Option Unit :=
bnd (v195 + 1) fun x197 =>
kh487 s196 v190 v191 v192 v193 v194 x197
def bL_law_487 (xs : Nat → Int32) (L : Nat) (kh127 : St → Int32 → Int64 → Int32 → Int32 → Option Unit) (kh487 : St → Int32 → Int64 → Int32 → Int32 → Int32 → Int32 → Option Unit) (s204 : St) (v198 : Int32) (v199 : Int64) (v200 : Int32) (v201 : Int32) (v202 : Int32) (v203 : Int32) : Option Unit :=
(mX7_count s204 3).bind fun ⟨r205, s207⟩ =>
if r205 ≤ v203 then (
mL_law_553 xs L kh127 s207 v198 v199 v200 v201 v202)
else (
(mX7_fails s207 v203).bind fun r209 =>
if r209 = 0 then (
(mX7_count s207 6).bind fun ⟨r212, s214⟩ =>
if r212 = 0 then (
(mX7_line s214 v203 5).bind fun ⟨r216, s218⟩ =>
if 0 ≤ r216 then (
mL_law_547 xs L kh127 kh487 s218 v198 v199 v200 v201 v202 v203)
else (
(mX7_line s218 v203 0).bind fun ⟨r220, s222⟩ =>
(mX7_formula s222 r220 4).bind fun r223 =>
if r223 = 256 then (
mL_law_547 xs L kh127 kh487 s222 v198 v199 v200 v201 v202 v203)
else (
none)))
else (
mL_law_547 xs L kh127 kh487 s214 v198 v199 v200 v201 v202 v203))
else (
none))
abbrev mL_law_487 (xs : Nat → Int32) (L : Nat) (kh127 : St → Int32 → Int64 → Int32 → Int32 → Option Unit) (n : Nat) : St → Int32 → Int64 → Int32 → Int32 → Int32 → Int32 → Option Unit := fx (fun _ _ _ _ _ _ _ => none) (bL_law_487 xs L kh127) n
def mL_law_484 (xs : Nat → Int32) (L : Nat) (kh127 : St → Int32 → Int64 → Int32 → Int32 → Option Unit) (s231 : St) (v226 : Int32) (v227 : Int64) (v228 : Int32) (v229 : Int32) (v230 : Int32) : Option Unit :=
mL_law_487 xs L kh127 NF s231 v226 v227 v228 v229 v230 0
def mL_law_450 (xs : Nat → Int32) (L : Nat) (kh127 : St → Int32 → Int64 → Int32 → Int32 → Option Unit) (s239 : St) (v232 : Int32) (v233 : Int64) (v234 : Int32) (v235 : Int32) (v236 : Int32) (v237 : Int64) (v238 : Int32) : Option Unit :=
if v238 = 0 then (
mL_law_484 xs L kh127 s239 v232 v233 v234 v235 v236)
else (
(mL_below s239 (v236 >>> (6 &&& 31)) 3).bind fun r241 =>
if r241 = 0 then (
(mX7_undo s239).bind fun ⟨r244, s246⟩ =>
(mX7_digest s246).bind fun ⟨r247, s249⟩ =>
if (lg_cmp r247 v237) = 0 then (
mL_law_884 xs L kh127 s249 v232 v233 v234 v235)
else (
none))
else (
mL_law_484 xs L kh127 s239 v232 v233 v234 v235 v236))
def mL_law_433 (xs : Nat → Int32) (L : Nat) (kh127 : St → Int32 → Int64 → Int32 → Int32 → Option Unit) (s258 : St) (v251 : Int32) (v252 : Int64) (v253 : Int32) (v254 : Int32) (v255 : Int32) (v256 : Int64) (v257 : Int32) : Option Unit :=
if v257 = 0 then (
(mX7_digest s258).bind fun ⟨r260, s262⟩ =>
if (lg_cmp r260 v256) = 0 then (
mL_law_450 xs L kh127 s262 v251 v252 v253 v254 v255 v256 v257)
else (
none))
else (
mL_law_450 xs L kh127 s258 v251 v252 v253 v254 v255 v256 v257)
def mL_law_431 (xs : Nat → Int32) (L : Nat) (kh127 : St → Int32 → Int64 → Int32 → Int32 → Option Unit) (s271 : St) (v264 : Int32) (v265 : Int64) (v266 : Int32) (v267 : Int32) (v268 : Int32) (v269 : Int64) (v270 : Int32) : Option Unit :=
mL_law_433 xs L kh127 s271 v264 v265 v266 v267 v268 v269 v270
def mL_law_366 (xs : Nat → Int32) (L : Nat) (kh127 : St → Int32 → Int64 → Int32 → Int32 → Option Unit) (s279 : St) (v272 : Int32) (v273 : Int64) (v274 : Int32) (v275 : Int32) (v276 : Int32) (v277 : Int64) (v278 : Int32) : Option Unit :=
mL_law_433 xs L kh127 s279 v272 v273 v274 v275 v276 v277 v278
def mL_law_296 (xs : Nat → Int32) (L : Nat) (kh127 : St → Int32 → Int64 → Int32 → Int32 → Option Unit) (s290 : St) (v280 : Int32) (v281 : Int64) (v282 : Int32) (v283 : Int32) (v284 : Int32) (v285 : Int32) (v286 : Int32) (v287 : Int64) (v288 : Int32) (v289 : Int32) : Option Unit :=
if 6 ≤ v286 then (
(mL_below s290 (v284 >>> (7 &&& 31)) 13).bind fun r292 =>
(mL_below s290 (v284 >>> (2 &&& 31)) (v288 + 1)).bind fun r294 =>
(mL_below s290 (v284 >>> (5 &&& 31)) (v288 + 1)).bind fun r296 =>
(mL_below s290 (v284 >>> (9 &&& 31)) (v288 + 1)).bind fun r298 =>
(mX7_step s290 r292 v285 r294 r296 r298).bind fun ⟨r300, s302⟩ =>
if r300 = 0 then (
mL_law_431 xs L kh127 s302 v280 v281 v282 v283 v284 v287 1)
else (
mL_law_431 xs L kh127 s302 v280 v281 v282 v283 v284 v287 0))
else (
(mX7_hint s290 v285 0).bind fun ⟨r304, s306⟩ =>
if r304 < 0 then (
mL_law_366 xs L kh127 s306 v280 v281 v282 v283 v284 v287 v289)
else (
(mX7_hint s306 v285 1).bind fun ⟨r308, s310⟩ =>
(mX7_hint s310 v285 2).bind fun ⟨r311, s313⟩ =>
(mX7_hint s313 v285 3).bind fun ⟨r314, s316⟩ =>
(mX7_step s316 r304 v285 r308 r311 r314).bind fun ⟨r317, s319⟩ =>
if r317 = 0 then (
(mX7_line s319 v288 1).bind fun ⟨r321, s323⟩ =>
if r321 = r304 then (
mL_law_366 xs L kh127 s323 v280 v281 v282 v283 v284 v287 1)
else (
none))
else (
none)))
def mL_law_291 (xs : Nat → Int32) (L : Nat) (kh127 : St → Int32 → Int64 → Int32 → Int32 → Option Unit) (s332 : St) (v325 : Int32) (v326 : Int64) (v327 : Int32) (v328 : Int32) (v329 : Int32) (v330 : Int64) (v331 : Int32) : Option Unit :=
mL_law_433 xs L kh127 s332 v325 v326 v327 v328 v329 v330 v331
def mL_law_252 (xs : Nat → Int32) (L : Nat) (kh127 : St → Int32 → Int64 → Int32 → Int32 → Option Unit) (s343 : St) (v333 : Int32) (v334 : Int64) (v335 : Int32) (v336 : Int32) (v337 : Int32) (v338 : Int32) (v339 : Int32) (v340 : Int64) (v341 : Int32) (v342 : Int32) : Option Unit :=
if v339 = 2 then (
if 2 ≤ v341 then (
mL_law_296 xs L kh127 s343 v333 v334 v335 v336 v337 v338 v339 v340 v341 v342)
else (
(mX7_count s343 6).bind fun ⟨r346, s348⟩ =>
if r346 = v341 then (
(mX7_premise s348 v338).bind fun ⟨r350, s352⟩ =>
if r350 = v341 then (
mL_law_291 xs L kh127 s352 v333 v334 v335 v336 v337 v340 1)
else (
mL_law_291 xs L kh127 s352 v333 v334 v335 v336 v337 v340 0))
else (
mL_law_296 xs L kh127 s348 v333 v334 v335 v336 v337 v338 v339 v340 v341 v342)))
else (
mL_law_296 xs L kh127 s343 v333 v334 v335 v336 v337 v338 v339 v340 v341 v342)
def mL_law_227 (xs : Nat → Int32) (L : Nat) (kh127 : St → Int32 → Int64 → Int32 → Int32 → Option Unit) (s364 : St) (v354 : Int32) (v355 : Int64) (v356 : Int32) (v357 : Int32) (v358 : Int32) (v359 : Int32) (v360 : Int32) (v361 : Int64) (v362 : Int32) (v363 : Int32) : Option Unit :=
if v360 = 1 then (
(mX7_count s364 5).bind fun ⟨r366, s368⟩ =>
if r366 ≤ 0 then (
mL_law_252 xs L kh127 s368 v354 v355 v356 v357 v358 v359 v360 v361 v362 v363)
else (
(mX7_close s368).bind fun ⟨r370, s372⟩ =>
mL_law_433 xs L kh127 s372 v354 v355 v356 v357 v358 v361 1))
else (
mL_law_252 xs L kh127 s364 v354 v355 v356 v357 v358 v359 v360 v361 v362 v363)
def mL_law_222 (xs : Nat → Int32) (L : Nat) (kh127 : St → Int32 → Int64 → Int32 → Int32 → Option Unit) (s380 : St) (v373 : Int32) (v374 : Int64) (v375 : Int32) (v376 : Int32) (v377 : Int32) (v378 : Int64) (v379 : Int32) : Option Unit :=
mL_law_433 xs L kh127 s380 v373 v374 v375 v376 v377 v378 v379
def bL_law_127 (xs : Nat → Int32) (L : Nat) (kh127 : St → Int32 → Int64 → Int32 → Int32 → Option Unit) (s385 : St) (v381 : Int32) (v382 : Int64) (v383 : Int32) (v384 : Int32) : Option Unit :=
if 30 ≤ v384 then (
mL_law_890 xs L s385 v382 v383)
else (
(mL_cell xs L (7 + (v384 - v384 / 9 * 9))).bind fun r387 =>
bnd (r387 >>> (((v384 / 9) * 5) &&& 31)) fun x389 =>
(mL_below s385 (x389 >>> (4 &&& 31)) v381).bind fun r390 =>
(mL_below s385 x389 9).bind fun r392 =>
(mX7_digest s385).bind fun ⟨r394, s396⟩ =>
(mX7_count s396 3).bind fun ⟨r397, s399⟩ =>
if r392 = 0 then (
(mX7_count s399 5).bind fun ⟨r401, s403⟩ =>
if 6 ≤ r401 then (
mL_law_227 xs L kh127 s403 v381 v382 v383 v384 x389 r390 r392 r394 r397 0)
else (
(mX7_assume s403 r390).bind fun ⟨r405, s407⟩ =>
if r405 = r397 then (
mL_law_222 xs L kh127 s407 v381 v382 v383 v384 x389 r394 1)
else (
mL_law_222 xs L kh127 s407 v381 v382 v383 v384 x389 r394 0)))
else (
mL_law_227 xs L kh127 s399 v381 v382 v383 v384 x389 r390 r392 r394 r397 0))
abbrev mL_law_127 (xs : Nat → Int32) (L : Nat) (n : Nat) : St → Int32 → Int64 → Int32 → Int32 → Option Unit := fx (fun _ _ _ _ _ => none) (bL_law_127 xs L) n
def mL_law_116 (xs : Nat → Int32) (L : Nat) (s410 : St) (v409 : Int32) : Option Unit :=
(mX7_digest s410).bind fun ⟨r411, s413⟩ =>
mL_law_127 xs L NF s413 v409 r411 0 0
def mL_law_100 (xs : Nat → Int32) (L : Nat) (kh12 : St → Int32 → Int32 → Option Unit) (s418 : St) (v414 : Int32) (v415 : Int32) (v416 : Int32) (v417 : Int32) : Option Unit :=
(mX7_make s418 v417 v416 v415).bind fun ⟨r419, s421⟩ =>
(mX7_count s421 0).bind fun ⟨r422, s424⟩ =>
bnd (v414 + 1) fun x425 =>
kh12 s424 r422 x425
def mL_law_83 (xs : Nat → Int32) (L : Nat) (kh12 : St → Int32 → Int32 → Option Unit) (s431 : St) (v426 : Int32) (v427 : Int32) (v428 : Int32) (v429 : Int32) (v430 : Int32) : Option Unit :=
if v426 = 0 then (
mL_law_100 xs L kh12 s431 v427 0 v429 v430)
else (
(mL_below s431 (v428 >>> (7 &&& 31)) v426).bind fun r433 =>
mL_law_100 xs L kh12 s431 v427 r433 v429 v430)
def mL_law_53 (xs : Nat → Int32) (L : Nat) (kh12 : St → Int32 → Int32 → Option Unit) (s439 : St) (v435 : Int32) (v436 : Int32) (v437 : Int32) (v438 : Int32) : Option Unit :=
if 2 ≤ v436 then (
if v435 = 0 then (
mL_law_83 xs L kh12 s439 v435 v436 v437 0 v438)
else (
(mL_below s439 (v437 >>> (3 &&& 31)) v435).bind fun r442 =>
mL_law_83 xs L kh12 s439 v435 v436 v437 r442 v438))
else (
mL_law_83 xs L kh12 s439 v435 v436 v437 v436 v438)
def bL_law_12 (xs : Nat → Int32) (L : Nat) (kh12 : St → Int32 → Int32 → Option Unit) (s446 : St) (v444 : Int32) (v445 : Int32) : Option Unit :=
if 14 ≤ v445 then (
mL_law_116 xs L s446 v444)
else (
(mL_cell xs L (v445 - v445 / 7 * 7)).bind fun r448 =>
bnd (r448 >>> (((v445 / 7) * 11) &&& 31)) fun x450 =>
if 2 ≤ v445 then (
(mL_below s446 x450 5).bind fun r452 =>
mL_law_53 xs L kh12 s446 v444 v445 x450 (1 + r452))
else (
mL_law_53 xs L kh12 s446 v444 v445 x450 0))
abbrev mL_law_12 (xs : Nat → Int32) (L : Nat) (n : Nat) : St → Int32 → Int32 → Option Unit := fx (fun _ _ _ => none) (bL_law_12 xs L) n
def mL_law (xs : Nat → Int32) (L : Nat) (σ : St) : Option Unit :=
mL_law_12 xs L NF σ 0 0
