def mX1_forgetFrom (σ : St) (p1 : Int32) : Option St :=
if p1 < 0 then (
some σ)
else (
if (σ.1 0 0) ≤ p1 then (
some σ)
else (
bnd (su σ 0 (fun _ => p1)) fun s3 =>
some s3))
def mX2_addWaiting (σ : St) (p1 : Int32) (p2 : Int32) : Option St :=
if (σ.1 4 0) < 0 then (
some σ)
else (
if 400 ≤ (σ.1 4 0) then (
some σ)
else (
chkI (σ.1 4 0) 400 (
bnd (su σ 20 (upd (σ.1 20) (σ.1 4 0).toNatClampNeg p1)) fun s3 =>
chkI (s3.1 4 0) 400 (
bnd (su s3 21 (upd (s3.1 21) (s3.1 4 0).toNatClampNeg p2)) fun s4 =>
bnd (su s4 4 (fun _ => (s4.1 4 0) + 1)) fun s5 =>
some s5))))
def mX2_set (σ : St) (p1 : Int32) (p2 : Int32) : Option St :=
if p1 < 0 then (
some σ)
else (
if 400 ≤ p1 then (
some σ)
else (
chkI p1 400 (
bnd (su σ 19 (upd (σ.1 19) p1.toNatClampNeg (vp_nar .byte p2.toInt8.toInt32))) fun s3 =>
some s3)))
def mX2_putPart (σ : St) (p1 : Int32) (p2 : Int32) (p3 : Int32) (p4 : Int32) : Option (Int32 × St) :=
(mX1_width σ p2).bind fun r1 =>
(mX1_sort σ p2).bind fun r3 =>
(mX1_needsBrackets σ p1 r3 p4).bind fun r5 =>
if r5 = 0 then (
(mX2_addWaiting σ p2 p3).bind fun s15 =>
some (p3 + r1, s15))
else (
(mX2_set σ p3 40).bind fun s9 =>
(mX2_addWaiting s9 p2 (p3 + 1)).bind fun s11 =>
(mX2_set s11 ((p3 + 1) + r1) 41).bind fun s13 =>
some ((p3 + r1) + 2, s13))
def mX2_putOne_135 (s6 : St) (v1 : Int32) (v2 : Int32) (v3 : Int32) (v4 : Int32) (v5 : Int32) : Option St :=
(mX2_set s6 v5 v4).bind fun s8 =>
(mX1_second s8 v1).bind fun r9 =>
(mX2_putPart s8 v2 r9 (v3 + 1) 1).bind fun ⟨r11, s13⟩ =>
some s13
def mX2_putOne (σ : St) (p1 : Int32) (p2 : Int32) : Option St :=
(mX1_sort σ p1).bind fun r14 =>
if r14 = 0 then (
(mX1_first σ p1).bind fun r17 =>
(mX2_set σ p2 (97 + r17)).bind fun s20 =>
some s20)
else (
if r14 = 1 then (
(mX2_set σ p2 35).bind fun s23 =>
some s23)
else (
if r14 = 2 then (
(mX2_set σ p2 45).bind fun s26 =>
(mX1_left s26 p1).bind fun r27 =>
(mX2_putPart s26 r14 r27 (p2 + 1) 0).bind fun ⟨r29, s31⟩ =>
some s31)
else (
(mX1_left σ p1).bind fun r32 =>
(mX2_putPart σ r14 r32 p2 0).bind fun ⟨r34, s36⟩ =>
if r14 = 3 then (
mX2_putOne_135 s36 p1 r14 r34 38 r34)
else (
if r14 = 4 then (
mX2_putOne_135 s36 p1 r14 r34 124 r34)
else (
mX2_putOne_135 s36 p1 r14 r34 62 r34)))))
def bX2_put_31 (kh31 : St → Int32 → Option St) (s2 : St) (v1 : Int32) : Option St :=
if 400 ≤ v1 then (
some s2)
else (
if (s2.1 4 0) ≤ 0 then (
some s2)
else (
bnd (su s2 4 (fun _ => (s2.1 4 0) - 1)) fun s5 =>
chkI (s5.1 4 0) 400 (
chkI (s5.1 4 0) 400 (
(mX2_putOne s5 (s5.1 20 (s5.1 4 0).toNatClampNeg) (s5.1 21 (s5.1 4 0).toNatClampNeg)).bind fun s7 =>
bnd (v1 + 1) fun x8 =>
kh31 s7 x8))))
abbrev mX2_put_31 (n : Nat) : St → Int32 → Option St := fx (fun _ _ => none) (bX2_put_31) n
def mX2_put (σ : St) (p1 : Int32) : Option St :=
(mX1_width σ p1).bind fun r9 =>
bnd (su σ 5 (fun _ => if r9 < (400 : Int32) then r9 else 400)) fun s11 =>
bnd (su s11 4 (fun _ => 0)) fun s12 =>
(mX2_addWaiting s12 p1 0).bind fun s14 =>
mX2_put_31 NF s14 0
def mX5_error (σ : St) : Option Int32 :=
some (σ.1 3 0)
def mX5_append_47 (kh3 : St → Int32 → Int32 → Option St) (s3 : St) (v1 : Int32) (v2 : Int32) : Option St :=
bnd (v2 + (-8)) fun x4 =>
kh3 s3 v1 x4
def bX5_append_3 (kh3 : St → Int32 → Int32 → Option St) (s7 : St) (v5 : Int32) (v6 : Int32) : Option St :=
if v6 < 0 then (
some s7)
else (
if (s7.1 1 0) < 0 then (
mX5_append_47 kh3 s7 v5 v6)
else (
if 400 ≤ (s7.1 1 0) then (
mX5_append_47 kh3 s7 v5 v6)
else (
chkI (s7.1 1 0) 400 (
bnd (su s7 18 (upd (s7.1 18) (s7.1 1 0).toNatClampNeg (vp_nar .byte ((v5 >>> (v6 &&& 31)).toInt8.toInt32)))) fun s11 =>
bnd (su s11 1 (fun _ => (s11.1 1 0) + 1)) fun s12 =>
mX5_append_47 kh3 s12 v5 v6))))
abbrev mX5_append_3 (n : Nat) : St → Int32 → Int32 → Option St := fx (fun _ _ _ => none) (bX5_append_3) n
def mX5_append (σ : St) (p1 : Int32) : Option St :=
mX5_append_3 NF σ p1 24
def mX5_shorten (σ : St) (p1 : Int32) : Option St :=
if p1 < 0 then (
some σ)
else (
if (σ.1 1 0) ≤ p1 then (
some σ)
else (
bnd (su σ 1 (fun _ => p1)) fun s3 =>
some s3))
def mX5_next_38 (s1 : St) : Option (Int32 × St) :=
if (s1.1 1 0) ≤ (s1.1 2 0) then (
some ((-1), s1))
else (
chkI (s1.1 2 0) 400 (
some ((s1.1 18 (s1.1 2 0).toNatClampNeg) &&& 255, s1)))
def bX5_next_0 (kh0 : St → Option (Int32 × St)) (s3 : St) : Option (Int32 × St) :=
if (s3.1 1 0) ≤ (s3.1 2 0) then (
mX5_next_38 s3)
else (
chkI (s3.1 2 0) 400 (
if (s3.1 18 (s3.1 2 0).toNatClampNeg) = 32 then (
bnd (su s3 2 (fun _ => (s3.1 2 0) + 1)) fun s6 =>
kh0 s6)
else (
mX5_next_38 s3)))
abbrev mX5_next_0 (n : Nat) : St → Option (Int32 × St) := fx (fun _ => none) (bX5_next_0) n
def mX5_next (σ : St) : Option (Int32 × St) :=
mX5_next_0 NF σ
def mX5_fail (σ : St) : Option (Int32 × St) :=
if 0 ≤ (σ.1 3 0) then (
some ((-1), σ))
else (
bnd (su σ 3 (fun _ => σ.1 2 0)) fun s2 =>
some ((-1), s2))
def mX5_takes (σ : St) (p1 : Int32) : Option (Int32 × St) :=
if 0 ≤ (σ.1 3 0) then (
some (0, σ))
else (
(mX5_next σ).bind fun ⟨r2, s4⟩ =>
if r2 = p1 then (
bnd (su s4 2 (fun _ => (s4.1 2 0) + 1)) fun s6 =>
some (1, s6))
else (
some (0, s4)))
def bX5_both_8 (f_X5_both : St → Int32 → Option (Int32 × St)) (f_X5_form : St → Int32 → Option (Int32 × St)) (f_X5_plain : St → Int32 → Option (Int32 × St)) (kh8 : St → Int32 → Int32 → Int32 → Option (Int32 × St)) (s4 : St) (v1 : Int32) (v2 : Int32) (v3 : Int32) : Option (Int32 × St) :=
if 400 ≤ v3 then (
some (v2, s4))
else (
(mX5_takes s4 38).bind fun ⟨r6, s8⟩ =>
if r6 = 0 then (
some (v2, s8))
else (
(f_X5_plain s8 v1).bind fun ⟨r10, s12⟩ =>
(mX1_number s12 3 v2 r10).bind fun ⟨r13, s15⟩ =>
bnd (v3 + 1) fun x16 =>
kh8 s15 v1 r13 x16))
abbrev mX5_both_8 (f_X5_both : St → Int32 → Option (Int32 × St)) (f_X5_form : St → Int32 → Option (Int32 × St)) (f_X5_plain : St → Int32 → Option (Int32 × St)) (n : Nat) : St → Int32 → Int32 → Int32 → Option (Int32 × St) := fx (fun _ _ _ _ => none) (bX5_both_8 f_X5_both f_X5_form f_X5_plain) n
def bX5_both (f_X5_both : St → Int32 → Option (Int32 × St)) (f_X5_form : St → Int32 → Option (Int32 × St)) (f_X5_plain : St → Int32 → Option (Int32 × St)) (σ : St) (p1 : Int32) : Option (Int32 × St) :=
(f_X5_plain σ p1).bind fun ⟨r17, s19⟩ =>
mX5_both_8 f_X5_both f_X5_form f_X5_plain NF s19 p1 r17 0
def mX5_form_45 (f_X5_both : St → Int32 → Option (Int32 × St)) (f_X5_form : St → Int32 → Option (Int32 × St)) (f_X5_plain : St → Int32 → Option (Int32 × St)) (s3 : St) (v1 : Int32) (v2 : Int32) : Option (Int32 × St) :=
(mX5_takes s3 62).bind fun ⟨r4, s6⟩ =>
if r4 = 0 then (
some (v2, s6))
else (
(f_X5_form s6 (v1 + 1)).bind fun ⟨r8, s10⟩ =>
(mX1_number s10 5 v2 r8).bind fun ⟨r11, s13⟩ =>
some (r11, s13))
def bX5_form_8 (f_X5_both : St → Int32 → Option (Int32 × St)) (f_X5_form : St → Int32 → Option (Int32 × St)) (f_X5_plain : St → Int32 → Option (Int32 × St)) (kh8 : St → Int32 → Int32 → Int32 → Option (Int32 × St)) (s17 : St) (v14 : Int32) (v15 : Int32) (v16 : Int32) : Option (Int32 × St) :=
if 400 ≤ v16 then (
mX5_form_45 f_X5_both f_X5_form f_X5_plain s17 v14 v15)
else (
(mX5_takes s17 124).bind fun ⟨r19, s21⟩ =>
if r19 = 0 then (
mX5_form_45 f_X5_both f_X5_form f_X5_plain s21 v14 v15)
else (
(f_X5_both s21 v14).bind fun ⟨r23, s25⟩ =>
(mX1_number s25 4 v15 r23).bind fun ⟨r26, s28⟩ =>
bnd (v16 + 1) fun x29 =>
kh8 s28 v14 r26 x29))
abbrev mX5_form_8 (f_X5_both : St → Int32 → Option (Int32 × St)) (f_X5_form : St → Int32 → Option (Int32 × St)) (f_X5_plain : St → Int32 → Option (Int32 × St)) (n : Nat) : St → Int32 → Int32 → Int32 → Option (Int32 × St) := fx (fun _ _ _ _ => none) (bX5_form_8 f_X5_both f_X5_form f_X5_plain) n
def bX5_form (f_X5_both : St → Int32 → Option (Int32 × St)) (f_X5_form : St → Int32 → Option (Int32 × St)) (f_X5_plain : St → Int32 → Option (Int32 × St)) (σ : St) (p1 : Int32) : Option (Int32 × St) :=
(f_X5_both σ p1).bind fun ⟨r30, s32⟩ =>
mX5_form_8 f_X5_both f_X5_form f_X5_plain NF s32 p1 r30 0
def mX5_plain_18 (f_X5_both : St → Int32 → Option (Int32 × St)) (f_X5_form : St → Int32 → Option (Int32 × St)) (f_X5_plain : St → Int32 → Option (Int32 × St)) (s1 : St) : Option (Int32 × St) :=
(mX5_fail s1).bind fun ⟨r2, s4⟩ =>
some (r2, s4)
def mX5_plain_59 (f_X5_both : St → Int32 → Option (Int32 × St)) (f_X5_form : St → Int32 → Option (Int32 × St)) (f_X5_plain : St → Int32 → Option (Int32 × St)) (s6 : St) (v5 : Int32) : Option (Int32 × St) :=
(mX5_takes s6 35).bind fun ⟨r7, s9⟩ =>
if r7 = 0 then (
(mX5_takes s9 45).bind fun ⟨r11, s13⟩ =>
if r11 = 0 then (
(mX5_takes s13 40).bind fun ⟨r15, s17⟩ =>
if r15 = 0 then (
(mX5_fail s17).bind fun ⟨r19, s21⟩ =>
some (r19, s21))
else (
(f_X5_form s17 (v5 + 1)).bind fun ⟨r22, s24⟩ =>
(mX5_takes s24 41).bind fun ⟨r25, s27⟩ =>
if r25 = 0 then (
(mX5_fail s27).bind fun ⟨r29, s31⟩ =>
some (r29, s31))
else (
some (r22, s27))))
else (
(f_X5_plain s13 (v5 + 1)).bind fun ⟨r32, s34⟩ =>
(mX1_number s34 2 r32 (-1)).bind fun ⟨r35, s37⟩ =>
some (r35, s37)))
else (
(mX1_number s9 1 (-1) (-1)).bind fun ⟨r38, s40⟩ =>
some (r38, s40))
def bX5_plain (f_X5_both : St → Int32 → Option (Int32 × St)) (f_X5_form : St → Int32 → Option (Int32 × St)) (f_X5_plain : St → Int32 → Option (Int32 × St)) (σ : St) (p1 : Int32) : Option (Int32 × St) :=
(mX5_next σ).bind fun ⟨r41, s43⟩ =>
if 10 < p1 then (
mX5_plain_18 f_X5_both f_X5_form f_X5_plain s43)
else (
if (s43.1 3 0) < 0 then (
if r41 < 97 then (
mX5_plain_59 f_X5_both f_X5_form f_X5_plain s43 p1)
else (
if 105 ≤ r41 then (
mX5_plain_59 f_X5_both f_X5_form f_X5_plain s43 p1)
else (
bnd (su s43 2 (fun _ => (s43.1 2 0) + 1)) fun s48 =>
(mX1_number s48 0 (r41 - 97) (-1)).bind fun ⟨r49, s51⟩ =>
some (r49, s51))))
else (
mX5_plain_18 f_X5_both f_X5_form f_X5_plain s43))
def gX5_both (d : Nat) : (St → Int32 → Option (Int32 × St)) × (St → Int32 → Option (Int32 × St)) × (St → Int32 → Option (Int32 × St)) := fx ((fun _ _ => none), (fun _ _ => none), (fun _ _ => none)) (fun F => (bX5_both (F.1) (F.2.1) (F.2.2), bX5_form (F.1) (F.2.1) (F.2.2), bX5_plain (F.1) (F.2.1) (F.2.2))) d
abbrev mX5_both : St → Int32 → Option (Int32 × St) := (gX5_both 40).1
abbrev mX5_form : St → Int32 → Option (Int32 × St) := (gX5_both 40).2.1
abbrev mX5_plain : St → Int32 → Option (Int32 × St) := (gX5_both 40).2.2
def mX5_parse_43 (s3 : St) (v1 : Int32) (v2 : Int32) : Option (Int32 × St) :=
bnd (su s3 1 (fun _ => 0)) fun s4 =>
if (s4.1 3 0) < 0 then (
if 0 ≤ v2 then (
some (v2, s4))
else (
(mX1_forgetFrom s4 v1).bind fun s8 =>
bnd (su s8 3 (fun _ => 0)) fun s9 =>
some ((-2), s9)))
else (
(mX1_forgetFrom s4 v1).bind fun s11 =>
some ((-1), s11))
def mX5_parse (σ : St) : Option (Int32 × St) :=
(mX1_known σ).bind fun r12 =>
bnd (su σ 2 (fun _ => 0)) fun s14 =>
bnd (su s14 3 (fun _ => (-1))) fun s15 =>
(mX5_form s15 0).bind fun ⟨r16, s18⟩ =>
if 0 ≤ (s18.1 3 0) then (
mX5_parse_43 s18 r12 r16)
else (
(mX5_next s18).bind fun ⟨r20, s22⟩ =>
if r20 < 0 then (
mX5_parse_43 s22 r12 r16)
else (
(mX5_fail s22).bind fun ⟨r24, s26⟩ =>
mX5_parse_43 s26 r12 r16))
def mX8_thrown (σ : St) : Option Int32 :=
some (σ.1 0 0)
def mX8_no (σ : St) (p1 : Int32) : Option (Int32 × St) :=
bnd (su σ 0 (fun _ => p1)) fun s1 =>
some (0, s1)
def mX8_isIn (σ : St) (p1 : Int32) (p2 : Int32) (p3 : Int32) : Option Int32 :=
if p1 < p2 then (
some 0)
else (
if p3 < p1 then (
some 0)
else (
some 1))
def mX8_isFormula (σ : St) (p1 : Int32) : Option Int32 :=
(mX8_isIn σ p1 0 ((σ.1 5 0) - 1)).bind fun r1 =>
chkZ r1 (some r1)
def mX8_feed_122 (kh63 : St → Int32 → Int32 → Option (Int32 × St)) (s3 : St) (v1 : Int32) (v2 : Int32) : Option (Int32 × St) :=
bnd (v2 + 1) fun x4 =>
kh63 s3 v1 x4
def bX8_feed_80 (kh63 : St → Int32 → Int32 → Option (Int32 × St)) (kh80 : St → Int32 → Int32 → Int32 → Int32 → Option (Int32 × St)) (s9 : St) (v5 : Int32) (v6 : Int32) (v7 : Int32) (v8 : Int32) : Option (Int32 × St) :=
if v8 < 0 then (
mX8_feed_122 kh63 s9 v5 v6)
else (
chkI (s9.1 1 0) 400 (
bnd (su s9 13 (upd (s9.1 13) (s9.1 1 0).toNatClampNeg ((v7 >>> ((8 * v8) &&& 31)) &&& 255))) fun s11 =>
bnd (su s11 1 (fun _ => (s11.1 1 0) + 1)) fun s12 =>
bnd (v8 + (-1)) fun x13 =>
kh80 s12 v5 v6 v7 x13))
abbrev mX8_feed_80 (kh63 : St → Int32 → Int32 → Option (Int32 × St)) (n : Nat) : St → Int32 → Int32 → Int32 → Int32 → Option (Int32 × St) := fx (fun _ _ _ _ _ => none) (bX8_feed_80 kh63) n
def bX8_feed_63 (kh63 : St → Int32 → Int32 → Option (Int32 × St)) (s16 : St) (v14 : Int32) (v15 : Int32) : Option (Int32 × St) :=
if v14 ≤ v15 then (
some (s16.1 1 0, s16))
else (
chkI v15 5 (
bnd (s16.1 42 v15.toNatClampNeg) fun x18 =>
mX8_feed_80 kh63 NF s16 v14 v15 x18 3))
abbrev mX8_feed_63 (n : Nat) : St → Int32 → Int32 → Option (Int32 × St) := fx (fun _ _ _ => none) (bX8_feed_63) n
def mX8_feed (σ : St) (p1 : Int32) (p2 : Int32) (p3 : Int32) (p4 : Int32) (p5 : Int32) : Option (Int32 × St) :=
bnd (su σ 0 (fun _ => 0)) fun s19 =>
if ((s19.1 1 0) + 20) ≤ 400 then (
bnd (su s19 42 (fun _ => 0)) fun s21 =>
chkI 0 5 (
bnd (su s21 42 (upd (s21.1 42) (0 : Int32).toNatClampNeg p1)) fun s22 =>
chkI 1 5 (
bnd (su s22 42 (upd (s22.1 42) (1 : Int32).toNatClampNeg p2)) fun s23 =>
chkI 2 5 (
bnd (su s23 42 (upd (s23.1 42) (2 : Int32).toNatClampNeg p3)) fun s24 =>
chkI 3 5 (
bnd (su s24 42 (upd (s24.1 42) (3 : Int32).toNatClampNeg p4)) fun s25 =>
chkI 4 5 (
bnd (su s25 42 (upd (s25.1 42) (4 : Int32).toNatClampNeg p5)) fun s26 =>
mX8_feed_63 NF s26 5 0))))))
else (
(mX8_no s19 1).bind fun ⟨r27, s29⟩ =>
some (r27, s29))
def mX8_trim (σ : St) (p1 : Int32) : Option (Int32 × St) :=
bnd (su σ 0 (fun _ => 0)) fun s1 =>
(mX8_isIn s1 p1 0 (s1.1 1 0)).bind fun r2 =>
if r2 = 0 then (
(mX8_no s1 1).bind fun ⟨r6, s8⟩ =>
some (r6, s8))
else (
bnd (su s1 1 (fun _ => p1)) fun s5 =>
some (p1, s5))
def mX8_find_48 (kh3 : St → Int32 → Int32 → Int32 → Int32 → Option Int32) (σ : St) (v1 : Int32) (v2 : Int32) (v3 : Int32) (v4 : Int32) : Option Int32 :=
bnd (v4 + 1) fun x5 =>
kh3 σ v1 v2 v3 x5
def bX8_find_3 (kh3 : St → Int32 → Int32 → Int32 → Int32 → Option Int32) (σ : St) (v6 : Int32) (v7 : Int32) (v8 : Int32) (v9 : Int32) : Option Int32 :=
if (σ.1 5 0) ≤ v9 then (
some (-1))
else (
chkI v9 240 (
if (σ.1 15 v9.toNatClampNeg) = v6 then (
chkI v9 240 (
if (σ.1 16 v9.toNatClampNeg) = v7 then (
chkI v9 240 (
if (σ.1 17 v9.toNatClampNeg) = v8 then (
some v9)
else (
mX8_find_48 kh3 σ v6 v7 v8 v9)))
else (
mX8_find_48 kh3 σ v6 v7 v8 v9)))
else (
mX8_find_48 kh3 σ v6 v7 v8 v9)))
abbrev mX8_find_3 (n : Nat) : St → Int32 → Int32 → Int32 → Int32 → Option Int32 := fx (fun _ _ _ _ _ => none) (bX8_find_3) n
def mX8_find (σ : St) (p1 : Int32) (p2 : Int32) (p3 : Int32) : Option Int32 :=
mX8_find_3 NF σ p1 p2 p3 0
def mX8_told (σ : St) (p1 : Int32) (p2 : Int32) (p3 : Int32) : Option Int32 :=
if p1 = 2 then (
if p2 = 0 then (
some 1)
else (
some 0))
else (
if p1 = 3 then (
if p2 = 0 then (
some 0)
else (
if p3 = 0 then (
some 0)
else (
some 1)))
else (
if p1 = 4 then (
if p2 = 0 then (
if p3 = 0 then (
some 0)
else (
some 1))
else (
some 1))
else (
if p2 = 0 then (
some 1)
else (
if p3 = 0 then (
some 0)
else (
some 1)))))
def mX8_isTrueAt (σ : St) (p1 : Int32) (p2 : Int32) : Option Int32 :=
chkI ((p1 <<< (8 &&& 31)) ||| p2) 61440 (
chkZ (σ.1 20 ((p1 <<< (8 &&& 31)) ||| p2).toNatClampNeg) (some (σ.1 20 ((p1 <<< (8 &&& 31)) ||| p2).toNatClampNeg)))
def mX8_known_247 (s2 : St) (v1 : Int32) : Option (Int32 × St) :=
bnd (su s2 5 (fun _ => (s2.1 5 0) + 1)) fun s3 =>
some (v1, s3)
def mX8_known_240 (kh154 : St → Int32 → Int32 → Int32 → Int32 → Int32 → Option (Int32 × St)) (s11 : St) (v4 : Int32) (v5 : Int32) (v6 : Int32) (v7 : Int32) (v8 : Int32) (v9 : Int32) (v10 : Int32) : Option (Int32 × St) :=
chkI v10 61440 (
bnd (su s11 20 (upd (s11.1 20) v10.toNatClampNeg (vp_nar .boolean v9))) fun s12 =>
bnd (v8 + 1) fun x13 =>
kh154 s12 v4 v5 v6 v7 x13)
def mX8_known_239 (kh154 : St → Int32 → Int32 → Int32 → Int32 → Int32 → Option (Int32 × St)) (s20 : St) (v14 : Int32) (v15 : Int32) (v16 : Int32) (v17 : Int32) (v18 : Int32) (v19 : Int32) : Option (Int32 × St) :=
mX8_known_240 kh154 s20 v14 v15 v16 v17 v18 0 v19
def mX8_known_229 (kh154 : St → Int32 → Int32 → Int32 → Int32 → Int32 → Option (Int32 × St)) (s30 : St) (v21 : Int32) (v22 : Int32) (v23 : Int32) (v24 : Int32) (v25 : Int32) (v26 : Int32) (v27 : Int32) (v28 : Int32) (v29 : Int32) : Option (Int32 × St) :=
(mX8_told s30 v28 v27 v26).bind fun r31 =>
if r31 = 0 then (
mX8_known_239 kh154 s30 v21 v22 v23 v24 v25 v29)
else (
mX8_known_240 kh154 s30 v21 v22 v23 v24 v25 1 v29)
def mX8_known_228 (kh154 : St → Int32 → Int32 → Int32 → Int32 → Int32 → Option (Int32 × St)) (s42 : St) (v34 : Int32) (v35 : Int32) (v36 : Int32) (v37 : Int32) (v38 : Int32) (v39 : Int32) (v40 : Int32) (v41 : Int32) : Option (Int32 × St) :=
mX8_known_229 kh154 s42 v34 v35 v36 v37 v38 0 v39 v40 v41
def bX8_known_154 (kh154 : St → Int32 → Int32 → Int32 → Int32 → Int32 → Option (Int32 × St)) (s48 : St) (v43 : Int32) (v44 : Int32) (v45 : Int32) (v46 : Int32) (v47 : Int32) : Option (Int32 × St) :=
if 256 ≤ v47 then (
mX8_known_247 s48 v46)
else (
if v43 = 0 then (
if ((v47 >>> (v44 &&& 31)) &&& 1) = 1 then (
mX8_known_240 kh154 s48 v43 v44 v45 v46 v47 1 ((v46 <<< (8 &&& 31)) ||| v47))
else (
mX8_known_240 kh154 s48 v43 v44 v45 v46 v47 0 ((v46 <<< (8 &&& 31)) ||| v47)))
else (
if v43 = 1 then (
mX8_known_239 kh154 s48 v43 v44 v45 v46 v47 ((v46 <<< (8 &&& 31)) ||| v47))
else (
(mX8_isTrueAt s48 v44 v47).bind fun r52 =>
if v45 = (-1) then (
mX8_known_228 kh154 s48 v43 v44 v45 v46 v47 r52 v43 ((v46 <<< (8 &&& 31)) ||| v47))
else (
(mX8_isTrueAt s48 v45 v47).bind fun r55 =>
if r55 = 0 then (
mX8_known_228 kh154 s48 v43 v44 v45 v46 v47 r52 v43 ((v46 <<< (8 &&& 31)) ||| v47))
else (
mX8_known_229 kh154 s48 v43 v44 v45 v46 v47 1 r52 v43 ((v46 <<< (8 &&& 31)) ||| v47))))))
abbrev mX8_known_154 (n : Nat) : St → Int32 → Int32 → Int32 → Int32 → Int32 → Option (Int32 × St) := fx (fun _ _ _ _ _ _ => none) (bX8_known_154) n
def mX8_known_150 (s65 : St) (v59 : Int32) (v60 : Int32) (v61 : Int32) (v62 : Int32) (v63 : Int32) (v64 : Int32) : Option (Int32 × St) :=
chkI v64 240 (
bnd (su s65 19 (upd (s65.1 19) v64.toNatClampNeg v63)) fun s66 =>
mX8_known_154 NF s66 v59 v60 v61 v62 0)
def mX8_known_146 (s75 : St) (v67 : Int32) (v68 : Int32) (v69 : Int32) (v70 : Int32) (v71 : Int32) (v72 : Int32) (v73 : Int32) (v74 : Int32) : Option (Int32 × St) :=
mX8_known_150 s75 v67 v68 v69 v70 (if (v72 + v71) < v73 then v72 + v71 else v73) v74
def mX8_known_105 (s82 : St) (v76 : Int32) (v77 : Int32) (v78 : Int32) (v79 : Int32) (v80 : Int32) (v81 : Int32) : Option (Int32 × St) :=
chkI v81 240 (
bnd (su s82 18 (upd (s82.1 18) v81.toNatClampNeg v80)) fun s83 =>
if 2 ≤ v76 then (
chkI v77 240 (
if v78 = (-1) then (
mX8_known_146 s83 v76 v77 v78 v79 0 (1 + (s83.1 19 v77.toNatClampNeg)) 1000000 v79)
else (
chkI v78 240 (
mX8_known_146 s83 v76 v77 v78 v79 (s83.1 19 v78.toNatClampNeg) (1 + (s83.1 19 v77.toNatClampNeg)) 1000000 v79))))
else (
mX8_known_150 s83 v76 v77 v78 v79 1 v79))
def mX8_known_104 (s93 : St) (v86 : Int32) (v87 : Int32) (v88 : Int32) (v89 : Int32) (v90 : Int32) (v91 : Int32) (v92 : Int32) : Option (Int32 × St) :=
mX8_known_105 s93 v86 v87 v88 v89 (v91 ||| v90) v92
def mX8_known (σ : St) (p1 : Int32) (p2 : Int32) (p3 : Int32) : Option (Int32 × St) :=
(mX8_find σ p1 p2 p3).bind fun r94 =>
if r94 = (-1) then (
if (σ.1 5 0) = 240 then (
some (r94, σ))
else (
bnd (σ.1 5 0) fun x98 =>
chkI x98 240 (
bnd (su σ 15 (upd (σ.1 15) x98.toNatClampNeg p1)) fun s99 =>
chkI x98 240 (
bnd (su s99 16 (upd (s99.1 16) x98.toNatClampNeg p2)) fun s100 =>
chkI x98 240 (
bnd (su s100 17 (upd (s100.1 17) x98.toNatClampNeg p3)) fun s101 =>
if p1 = 0 then (
mX8_known_105 s101 p1 p2 p3 x98 ((1 : Int32) <<< (p2 &&& 31)) x98)
else (
if p1 = 1 then (
mX8_known_105 s101 p1 p2 p3 x98 0 x98)
else (
chkI p2 240 (
if p3 = (-1) then (
mX8_known_104 s101 p1 p2 p3 x98 0 (s101.1 18 p2.toNatClampNeg) x98)
else (
chkI p3 240 (
mX8_known_104 s101 p1 p2 p3 x98 (s101.1 18 p3.toNatClampNeg) (s101.1 18 p2.toNatClampNeg) x98))))))))))
else (
some (r94, σ))
def mX8_part (σ : St) (p1 : Int32) (p2 : Int32) (p3 : Int32) : Option (Int32 × St) :=
chkI (σ.1 11 0) 400 (
bnd (su σ 35 (upd (σ.1 35) (σ.1 11 0).toNatClampNeg p1)) fun s1 =>
chkI (s1.1 11 0) 400 (
bnd (su s1 36 (upd (s1.1 36) (s1.1 11 0).toNatClampNeg p2)) fun s2 =>
chkI (s2.1 11 0) 400 (
bnd (su s2 37 (upd (s2.1 37) (s2.1 11 0).toNatClampNeg p3)) fun s3 =>
bnd (su s3 11 (fun _ => (s3.1 11 0) + 1)) fun s4 =>
some ((s4.1 11 0) - 1, s4))))
def mX8_here_38 (s1 : St) : Option (Int32 × St) :=
if (s1.1 1 0) ≤ (s1.1 3 0) then (
some ((-1), s1))
else (
chkI (s1.1 3 0) 400 (
some (s1.1 13 (s1.1 3 0).toNatClampNeg, s1)))
def bX8_here_0 (kh0 : St → Option (Int32 × St)) (s3 : St) : Option (Int32 × St) :=
if (s3.1 1 0) ≤ (s3.1 3 0) then (
mX8_here_38 s3)
else (
chkI (s3.1 3 0) 400 (
if (s3.1 13 (s3.1 3 0).toNatClampNeg) = 32 then (
bnd (su s3 3 (fun _ => (s3.1 3 0) + 1)) fun s6 =>
kh0 s6)
else (
mX8_here_38 s3)))
abbrev mX8_here_0 (n : Nat) : St → Option (Int32 × St) := fx (fun _ => none) (bX8_here_0) n
def mX8_here (σ : St) : Option (Int32 × St) :=
mX8_here_0 NF σ
def mX8_takes (σ : St) (p1 : Int32) : Option (Int32 × St) :=
(mX8_here σ).bind fun ⟨r1, s3⟩ =>
if r1 = p1 then (
bnd (su s3 3 (fun _ => (s3.1 3 0) + 1)) fun s5 =>
some (1, s5))
else (
some (0, s3))
def bX8_form (f_X8_form : St → Int32 → Option (Int32 × St)) (f_X8_plain : St → Int32 → Option (Int32 × St)) (f_X8_row : St → Int32 → Int32 → Option (Int32 × St)) (σ : St) (p1 : Int32) : Option (Int32 × St) :=
(mX8_here σ).bind fun ⟨r1, s3⟩ =>
if p1 ≤ 10 then (
(f_X8_row s3 p1 4).bind fun ⟨r5, s7⟩ =>
if r5 = (-1) then (
some (r5, s7))
else (
(mX8_takes s7 62).bind fun ⟨r9, s11⟩ =>
if r9 = 0 then (
some (r5, s11))
else (
(f_X8_form s11 (p1 + 1)).bind fun ⟨r13, s15⟩ =>
if r13 = (-1) then (
some ((-1), s15))
else (
(mX8_part s15 5 r5 r13).bind fun ⟨r17, s19⟩ =>
some (r17, s19)))))
else (
some ((-1), s3))
def bX8_plain (f_X8_form : St → Int32 → Option (Int32 × St)) (f_X8_plain : St → Int32 → Option (Int32 × St)) (f_X8_row : St → Int32 → Int32 → Option (Int32 × St)) (σ : St) (p1 : Int32) : Option (Int32 × St) :=
(mX8_here σ).bind fun ⟨r1, s3⟩ =>
if p1 ≤ 10 then (
(mX8_isIn s3 r1 97 104).bind fun r5 =>
if r5 = 0 then (
(mX8_takes s3 35).bind fun ⟨r8, s10⟩ =>
if r8 = 0 then (
(mX8_takes s10 45).bind fun ⟨r12, s14⟩ =>
if r12 = 0 then (
(mX8_takes s14 40).bind fun ⟨r16, s18⟩ =>
if r16 = 0 then (
some ((-1), s18))
else (
(f_X8_form s18 (p1 + 1)).bind fun ⟨r20, s22⟩ =>
if r20 = (-1) then (
some ((-1), s22))
else (
(mX8_takes s22 41).bind fun ⟨r24, s26⟩ =>
if r24 = 0 then (
some ((-1), s26))
else (
some (r20, s26)))))
else (
(f_X8_plain s14 (p1 + 1)).bind fun ⟨r28, s30⟩ =>
if r28 = (-1) then (
some ((-1), s30))
else (
(mX8_part s30 2 r28 (-1)).bind fun ⟨r32, s34⟩ =>
some (r32, s34))))
else (
(mX8_part s10 1 (-1) (-1)).bind fun ⟨r35, s37⟩ =>
some (r35, s37)))
else (
bnd (su s3 3 (fun _ => (s3.1 3 0) + 1)) fun s38 =>
(mX8_part s38 0 (r1 - 97) (-1)).bind fun ⟨r39, s41⟩ =>
some (r39, s41)))
else (
some ((-1), s3))
def mX8_row_83 (f_X8_form : St → Int32 → Option (Int32 × St)) (f_X8_plain : St → Int32 → Option (Int32 × St)) (f_X8_row : St → Int32 → Int32 → Option (Int32 × St)) (kh20 : St → Int32 → Int32 → Int32 → Option (Int32 × St)) (s4 : St) (v1 : Int32) (v2 : Int32) (v3 : Int32) : Option (Int32 × St) :=
kh20 s4 v1 v2 v3
def mX8_row_63 (f_X8_form : St → Int32 → Option (Int32 × St)) (f_X8_plain : St → Int32 → Option (Int32 × St)) (f_X8_row : St → Int32 → Int32 → Option (Int32 × St)) (kh20 : St → Int32 → Int32 → Int32 → Option (Int32 × St)) (s9 : St) (v5 : Int32) (v6 : Int32) (v7 : Int32) (v8 : Int32) : Option (Int32 × St) :=
if v8 = (-1) then (
mX8_row_83 f_X8_form f_X8_plain f_X8_row kh20 s9 v5 v6 (-1))
else (
(mX8_part s9 v6 v7 v8).bind fun ⟨r11, s13⟩ =>
mX8_row_83 f_X8_form f_X8_plain f_X8_row kh20 s13 v5 v6 r11)
def mX8_row_38 (f_X8_form : St → Int32 → Option (Int32 × St)) (f_X8_plain : St → Int32 → Option (Int32 × St)) (f_X8_row : St → Int32 → Int32 → Option (Int32 × St)) (kh20 : St → Int32 → Int32 → Int32 → Option (Int32 × St)) (s18 : St) (v14 : Int32) (v15 : Int32) (v16 : Int32) (v17 : Int32) : Option (Int32 × St) :=
(mX8_takes s18 v17).bind fun ⟨r19, s21⟩ =>
if r19 = 0 then (
some (v16, s21))
else (
if v15 = 4 then (
(f_X8_row s21 v14 3).bind fun ⟨r27, s29⟩ =>
mX8_row_63 f_X8_form f_X8_plain f_X8_row kh20 s29 v14 v15 v16 r27)
else (
(f_X8_plain s21 v14).bind fun ⟨r24, s26⟩ =>
mX8_row_63 f_X8_form f_X8_plain f_X8_row kh20 s26 v14 v15 v16 r24))
def bX8_row_20 (f_X8_form : St → Int32 → Option (Int32 × St)) (f_X8_plain : St → Int32 → Option (Int32 × St)) (f_X8_row : St → Int32 → Int32 → Option (Int32 × St)) (kh20 : St → Int32 → Int32 → Int32 → Option (Int32 × St)) (s33 : St) (v30 : Int32) (v31 : Int32) (v32 : Int32) : Option (Int32 × St) :=
if v32 = (-1) then (
some (v32, s33))
else (
if v31 = 4 then (
mX8_row_38 f_X8_form f_X8_plain f_X8_row kh20 s33 v30 v31 v32 124)
else (
mX8_row_38 f_X8_form f_X8_plain f_X8_row kh20 s33 v30 v31 v32 38))
abbrev mX8_row_20 (f_X8_form : St → Int32 → Option (Int32 × St)) (f_X8_plain : St → Int32 → Option (Int32 × St)) (f_X8_row : St → Int32 → Int32 → Option (Int32 × St)) (n : Nat) : St → Int32 → Int32 → Int32 → Option (Int32 × St) := fx (fun _ _ _ _ => none) (bX8_row_20 f_X8_form f_X8_plain f_X8_row) n
def mX8_row_19 (f_X8_form : St → Int32 → Option (Int32 × St)) (f_X8_plain : St → Int32 → Option (Int32 × St)) (f_X8_row : St → Int32 → Int32 → Option (Int32 × St)) (s39 : St) (v36 : Int32) (v37 : Int32) (v38 : Int32) : Option (Int32 × St) :=
mX8_row_20 f_X8_form f_X8_plain f_X8_row NF s39 v36 v37 v38
def bX8_row (f_X8_form : St → Int32 → Option (Int32 × St)) (f_X8_plain : St → Int32 → Option (Int32 × St)) (f_X8_row : St → Int32 → Int32 → Option (Int32 × St)) (σ : St) (p1 : Int32) (p2 : Int32) : Option (Int32 × St) :=
if p2 = 4 then (
(f_X8_row σ p1 3).bind fun ⟨r44, s46⟩ =>
mX8_row_19 f_X8_form f_X8_plain f_X8_row s46 p1 p2 r44)
else (
(f_X8_plain σ p1).bind fun ⟨r41, s43⟩ =>
mX8_row_19 f_X8_form f_X8_plain f_X8_row s43 p1 p2 r41)
def gX8_form (d : Nat) : (St → Int32 → Option (Int32 × St)) × (St → Int32 → Option (Int32 × St)) × (St → Int32 → Int32 → Option (Int32 × St)) := fx ((fun _ _ => none), (fun _ _ => none), (fun _ _ _ => none)) (fun F => (bX8_form (F.1) (F.2.1) (F.2.2), bX8_plain (F.1) (F.2.1) (F.2.2), bX8_row (F.1) (F.2.1) (F.2.2))) d
abbrev mX8_form : St → Int32 → Option (Int32 × St) := (gX8_form 56).1
abbrev mX8_plain : St → Int32 → Option (Int32 × St) := (gX8_form 56).2.1
abbrev mX8_row : St → Int32 → Int32 → Option (Int32 × St) := (gX8_form 56).2.2
def mX8_read_39 (s1 : St) : Option (Int32 × St) :=
bnd (su s1 2 (fun _ => s1.1 3 0)) fun s2 =>
bnd (su s2 1 (fun _ => 0)) fun s3 =>
some ((-1), s3)
def mX8_read_194 (s5 : St) (v4 : Int32) : Option (Int32 × St) :=
bnd (su s5 5 (fun _ => v4)) fun s6 =>
bnd (su s6 2 (fun _ => 0)) fun s7 =>
some ((-2), s7)
def mX8_read_182 (kh73 : St → Int32 → Int32 → Int32 → Option (Int32 × St)) (s15 : St) (v8 : Int32) (v9 : Int32) (v10 : Int32) (v11 : Int32) (v12 : Int32) (v13 : Int32) (v14 : Int32) : Option (Int32 × St) :=
(mX8_known s15 v13 v12 v11).bind fun ⟨r16, s18⟩ =>
bnd (su s18 42 (s15.1 42)) fun s19 =>
chkI v14 400 (
bnd (su s19 42 (upd (s19.1 42) v14.toNatClampNeg r16)) fun s20 =>
chkI v10 400 (
if (s20.1 42 v10.toNatClampNeg) = (-1) then (
mX8_read_194 s20 v9)
else (
bnd (v10 + 1) fun x22 =>
kh73 s20 v8 v9 x22)))
def mX8_read_181 (kh73 : St → Int32 → Int32 → Int32 → Option (Int32 × St)) (s29 : St) (v23 : Int32) (v24 : Int32) (v25 : Int32) (v26 : Int32) (v27 : Int32) (v28 : Int32) : Option (Int32 × St) :=
mX8_read_182 kh73 s29 v23 v24 v25 (-1) v26 v27 v28
def mX8_read_138 (kh73 : St → Int32 → Int32 → Int32 → Option (Int32 × St)) (s35 : St) (v30 : Int32) (v31 : Int32) (v32 : Int32) (v33 : Int32) (v34 : Int32) : Option (Int32 × St) :=
chkI v32 400 (
if v33 = 0 then (
mX8_read_181 kh73 s35 v30 v31 v32 v34 (s35.1 35 v32.toNatClampNeg) v32)
else (
chkI v32 400 (
if (s35.1 37 v32.toNatClampNeg) = (-1) then (
mX8_read_181 kh73 s35 v30 v31 v32 v34 (s35.1 35 v32.toNatClampNeg) v32)
else (
chkI v32 400 (
chkI (s35.1 37 v32.toNatClampNeg) 400 (
mX8_read_182 kh73 s35 v30 v31 v32 (s35.1 42 (s35.1 37 v32.toNatClampNeg).toNatClampNeg) v34 (s35.1 35 v32.toNatClampNeg) v32))))))
def mX8_read_98 (kh73 : St → Int32 → Int32 → Int32 → Option (Int32 × St)) (s42 : St) (v38 : Int32) (v39 : Int32) (v40 : Int32) (v41 : Int32) : Option (Int32 × St) :=
chkI v40 400 (
if (s42.1 35 v40.toNatClampNeg) = 0 then (
chkI v40 400 (
mX8_read_138 kh73 s42 v38 v39 v40 v41 (s42.1 36 v40.toNatClampNeg)))
else (
if v41 = 0 then (
mX8_read_138 kh73 s42 v38 v39 v40 v41 (-1))
else (
chkI v40 400 (
chkI (s42.1 36 v40.toNatClampNeg) 400 (
mX8_read_138 kh73 s42 v38 v39 v40 v41 (s42.1 42 (s42.1 36 v40.toNatClampNeg).toNatClampNeg))))))
def bX8_read_73 (kh73 : St → Int32 → Int32 → Int32 → Option (Int32 × St)) (s48 : St) (v45 : Int32) (v46 : Int32) (v47 : Int32) : Option (Int32 × St) :=
if (s48.1 11 0) ≤ v47 then (
chkI v45 400 (
some (s48.1 42 v45.toNatClampNeg, s48)))
else (
chkI v47 400 (
if (s48.1 35 v47.toNatClampNeg) < 2 then (
mX8_read_98 kh73 s48 v45 v46 v47 0)
else (
mX8_read_98 kh73 s48 v45 v46 v47 1)))
abbrev mX8_read_73 (n : Nat) : St → Int32 → Int32 → Int32 → Option (Int32 × St) := fx (fun _ _ _ _ => none) (bX8_read_73) n
def mX8_read (σ : St) : Option (Int32 × St) :=
bnd (su σ 0 (fun _ => 0)) fun s51 =>
bnd (su s51 2 (fun _ => (-1))) fun s52 =>
bnd (su s52 3 (fun _ => 0)) fun s53 =>
bnd (su s53 11 (fun _ => 0)) fun s54 =>
(mX8_form s54 0).bind fun ⟨r55, s57⟩ =>
if r55 = (-1) then (
mX8_read_39 s57)
else (
(mX8_here s57).bind fun ⟨r59, s61⟩ =>
if r59 = (-1) then (
bnd (su s61 1 (fun _ => 0)) fun s63 =>
bnd (s63.1 5 0) fun x64 =>
bnd (su s63 42 (fun _ => 0)) fun s65 =>
mX8_read_73 NF s65 r55 x64 0)
else (
mX8_read_39 s61))
def mX8_errorAt (σ : St) : Option (Int32 × St) :=
bnd (su σ 0 (fun _ => 0)) fun s1 =>
some (s1.1 2 0, s1)
def mX8_make_28 (s1 : St) : Option (Int32 × St) :=
(mX8_no s1 1).bind fun ⟨r2, s4⟩ =>
some (r2, s4)
def mX8_make_88 (s8 : St) (v5 : Int32) (v6 : Int32) (v7 : Int32) : Option (Int32 × St) :=
(mX8_known s8 v7 v6 v5).bind fun ⟨r9, s11⟩ =>
if r9 = (-1) then (
(mX8_no s11 3).bind fun ⟨r13, s15⟩ =>
some (r13, s15))
else (
some (r9, s11))
def mX8_make_78 (s20 : St) (v16 : Int32) (v17 : Int32) (v18 : Int32) (v19 : Int32) : Option (Int32 × St) :=
if v16 < 3 then (
mX8_make_88 s20 (-1) v18 v19)
else (
mX8_make_88 s20 v17 v18 v19)
def mX8_make_66 (s25 : St) (v22 : Int32) (v23 : Int32) (v24 : Int32) : Option (Int32 × St) :=
if v22 = 1 then (
mX8_make_78 s25 v22 v24 (-1) v22)
else (
mX8_make_78 s25 v22 v24 v23 v22)
def mX8_make_60 (s27 : St) : Option (Int32 × St) :=
(mX8_no s27 2).bind fun ⟨r28, s30⟩ =>
some (r28, s30)
def mX8_make_47 (s34 : St) (v31 : Int32) (v32 : Int32) (v33 : Int32) : Option (Int32 × St) :=
if v31 < 3 then (
mX8_make_66 s34 v31 v32 v33)
else (
(mX8_isFormula s34 v33).bind fun r36 =>
if r36 = 0 then (
mX8_make_60 s34)
else (
mX8_make_66 s34 v31 v32 v33))
def mX8_make_34 (s42 : St) (v39 : Int32) (v40 : Int32) (v41 : Int32) : Option (Int32 × St) :=
if v39 < 2 then (
mX8_make_47 s42 v39 v40 v41)
else (
(mX8_isFormula s42 v40).bind fun r44 =>
if r44 = 0 then (
mX8_make_60 s42)
else (
mX8_make_47 s42 v39 v40 v41))
def mX8_make (σ : St) (p1 : Int32) (p2 : Int32) (p3 : Int32) : Option (Int32 × St) :=
bnd (su σ 0 (fun _ => 0)) fun s47 =>
(mX8_isIn s47 p1 0 5).bind fun r48 =>
if r48 = 0 then (
mX8_make_28 s47)
else (
if p1 = 0 then (
(mX8_isIn s47 p2 0 7).bind fun r52 =>
if r52 = 0 then (
mX8_make_28 s47)
else (
mX8_make_34 s47 p1 p2 p3))
else (
mX8_make_34 s47 p1 p2 p3))
def mX8_trueFor_26 (kh4 : St → Int32 → Int32 → Int32 → Option Int32) (σ : St) (v1 : Int32) (v2 : Int32) (v3 : Int32) (v4 : Int32) : Option Int32 :=
bnd (v4 + v3) fun x5 =>
bnd (v2 + 1) fun x6 =>
kh4 σ v1 x5 x6
def bX8_trueFor_4 (kh4 : St → Int32 → Int32 → Int32 → Option Int32) (σ : St) (v7 : Int32) (v8 : Int32) (v9 : Int32) : Option Int32 :=
if 256 ≤ v9 then (
some v8)
else (
(mX8_isTrueAt σ v7 v9).bind fun r11 =>
if r11 = 0 then (
mX8_trueFor_26 kh4 σ v7 v9 0 v8)
else (
mX8_trueFor_26 kh4 σ v7 v9 1 v8))
abbrev mX8_trueFor_4 (n : Nat) : St → Int32 → Int32 → Int32 → Option Int32 := fx (fun _ _ _ _ => none) (bX8_trueFor_4) n
def mX8_trueFor (σ : St) (p1 : Int32) : Option Int32 :=
mX8_trueFor_4 NF σ p1 0 0
def mX8_formulaTold (σ : St) (p1 : Int32) (p2 : Int32) : Option Int32 :=
if p2 = 0 then (
chkI p1 240 (
some (σ.1 15 p1.toNatClampNeg)))
else (
if p2 = 1 then (
chkI p1 240 (
some (σ.1 16 p1.toNatClampNeg)))
else (
if p2 = 2 then (
chkI p1 240 (
some (σ.1 17 p1.toNatClampNeg)))
else (
if p2 = 3 then (
chkI p1 240 (
some (σ.1 18 p1.toNatClampNeg)))
else (
if p2 = 4 then (
(mX8_trueFor σ p1).bind fun r6 =>
some r6)
else (
chkI p1 240 (
some (σ.1 19 p1.toNatClampNeg)))))))
def mX8_formula_31 (s1 : St) : Option (Int32 × St) :=
(mX8_no s1 1).bind fun ⟨r2, s4⟩ =>
some (r2, s4)
def mX8_formula (σ : St) (p1 : Int32) (p2 : Int32) : Option (Int32 × St) :=
bnd (su σ 0 (fun _ => 0)) fun s5 =>
(mX8_isFormula s5 p1).bind fun r6 =>
if r6 = 0 then (
mX8_formula_31 s5)
else (
(mX8_isIn s5 p2 0 5).bind fun r9 =>
if r9 = 0 then (
mX8_formula_31 s5)
else (
(mX8_formulaTold s5 p1 p2).bind fun r12 =>
some (r12, s5)))
def mX8_isTrue_29 (s4 : St) (v1 : Int32) (v2 : Int32) (v3 : Int32) : Option (Int32 × St) :=
bnd (su s4 0 (fun _ => v3)) fun s5 =>
if (s5.1 0 0) = 0 then (
(mX8_isTrueAt s5 v1 v2).bind fun r7 =>
if r7 = 0 then (
some (0, s5))
else (
some (1, s5)))
else (
some (0, s5))
def mX8_isTrue (σ : St) (p1 : Int32) (p2 : Int32) : Option (Int32 × St) :=
(mX8_isFormula σ p1).bind fun r10 =>
if r10 = 0 then (
mX8_isTrue_29 σ p1 p2 1)
else (
(mX8_isIn σ p2 0 255).bind fun r13 =>
if r13 = 0 then (
mX8_isTrue_29 σ p1 p2 2)
else (
mX8_isTrue_29 σ p1 p2 0))
def mX8_put_20 (s1 : St) : Option St :=
bnd (su s1 12 (fun _ => (s1.1 12 0) + 1)) fun s2 =>
some s2
def mX8_put (σ : St) (p1 : Int32) : Option St :=
if 400 ≤ (σ.1 12 0) then (
mX8_put_20 σ)
else (
chkI (σ.1 12 0) 400 (
bnd (su σ 38 (upd (σ.1 38) (σ.1 12 0).toNatClampNeg p1)) fun s4 =>
mX8_put_20 s4))
def mX8_put__169 (f_X8_put_ : St → Int32 → Int32 → Option St) (s2 : St) (v1 : Int32) : Option St :=
if v1 = 0 then (
some s2)
else (
(mX8_put s2 41).bind fun s5 =>
some s5)
def mX8_put__166 (f_X8_put_ : St → Int32 → Int32 → Option St) (s9 : St) (v6 : Int32) (v7 : Int32) (v8 : Int32) : Option St :=
(f_X8_put_ s9 v8 v7).bind fun s11 =>
mX8_put__169 f_X8_put_ s11 v6
def mX8_put__145 (f_X8_put_ : St → Int32 → Int32 → Option St) (s16 : St) (v12 : Int32) (v13 : Int32) (v14 : Int32) (v15 : Int32) : Option St :=
(mX8_put s16 v15).bind fun s18 =>
chkI v12 240 (
if v13 = 5 then (
mX8_put__166 f_X8_put_ s18 v14 6 (s18.1 17 v12.toNatClampNeg))
else (
mX8_put__166 f_X8_put_ s18 v14 v13 (s18.1 17 v12.toNatClampNeg)))
def mX8_put__119 (f_X8_put_ : St → Int32 → Int32 → Option St) (s25 : St) (v20 : Int32) (v21 : Int32) (v22 : Int32) (v23 : Int32) (v24 : Int32) : Option St :=
(f_X8_put_ s25 v24 v23).bind fun s27 =>
if v21 = 3 then (
mX8_put__145 f_X8_put_ s27 v20 v21 v22 38)
else (
if v21 = 4 then (
mX8_put__145 f_X8_put_ s27 v20 v21 v22 124)
else (
mX8_put__145 f_X8_put_ s27 v20 v21 v22 62))
def mX8_put__41 (f_X8_put_ : St → Int32 → Int32 → Option St) (s33 : St) (v30 : Int32) (v31 : Int32) (v32 : Int32) : Option St :=
if v31 = 0 then (
chkI v30 240 (
(mX8_put s33 (97 + (s33.1 16 v30.toNatClampNeg))).bind fun s45 =>
mX8_put__169 f_X8_put_ s45 v32))
else (
if v31 = 1 then (
(mX8_put s33 35).bind fun s43 =>
mX8_put__169 f_X8_put_ s43 v32)
else (
if v31 = 2 then (
(mX8_put s33 45).bind fun s39 =>
chkI v30 240 (
(f_X8_put_ s39 (s39.1 16 v30.toNatClampNeg) 3).bind fun s41 =>
mX8_put__169 f_X8_put_ s41 v32))
else (
chkI v30 240 (
if v31 = 5 then (
mX8_put__119 f_X8_put_ s33 v30 v31 v32 5 (s33.1 16 v30.toNatClampNeg))
else (
mX8_put__119 f_X8_put_ s33 v30 v31 v32 (v31 + 1) (s33.1 16 v30.toNatClampNeg))))))
def mX8_put__28 (f_X8_put_ : St → Int32 → Int32 → Option St) (s49 : St) (v46 : Int32) (v47 : Int32) (v48 : Int32) : Option St :=
if v48 = 0 then (
mX8_put__41 f_X8_put_ s49 v46 v47 v48)
else (
(mX8_put s49 40).bind fun s52 =>
mX8_put__41 f_X8_put_ s52 v46 v47 v48)
def bX8_put_ (f_X8_put_ : St → Int32 → Int32 → Option St) (σ : St) (p1 : Int32) (p2 : Int32) : Option St :=
if (σ.1 12 0) ≤ 400 then (
chkI p1 240 (
bnd (σ.1 15 p1.toNatClampNeg) fun x54 =>
if x54 < p2 then (
mX8_put__28 f_X8_put_ σ p1 x54 0)
else (
mX8_put__28 f_X8_put_ σ p1 x54 1)))
else (
some σ)
def gX8_put_ (d : Nat) : (St → Int32 → Int32 → Option St) := fx (fun _ _ _ => none) (fun F => (bX8_put_ (F))) d
abbrev mX8_put_ : St → Int32 → Int32 → Option St := (gX8_put_ 256)
def mX8_write (σ : St) (p1 : Int32) : Option (Int32 × St) :=
bnd (su σ 0 (fun _ => 0)) fun s1 =>
(mX8_isFormula s1 p1).bind fun r2 =>
if r2 = 0 then (
(mX8_no s1 1).bind fun ⟨r14, s16⟩ =>
some (r14, s16))
else (
bnd (su s1 12 (fun _ => 0)) fun s5 =>
(mX8_put_ s5 p1 6).bind fun s7 =>
if (s7.1 12 0) ≤ 400 then (
chkL (s7.1 12 0) 400 (
bnd (su s7 14 (va_cpy (s7.1 38) (s7.1 14) 0 0 (s7.1 12 0).toNatClampNeg)) fun s9 =>
bnd (su s9 4 (fun _ => s9.1 12 0)) fun s10 =>
some (s10.1 4 0, s10)))
else (
(mX8_no s7 2).bind fun ⟨r11, s13⟩ =>
some (r11, s13)))
def mX8_byteAt (σ : St) (p1 : Int32) : Option (Int32 × St) :=
bnd (su σ 0 (fun _ => 0)) fun s1 =>
(mX8_isIn s1 p1 0 ((s1.1 4 0) - 1)).bind fun r2 =>
if r2 = 0 then (
(mX8_no s1 1).bind fun ⟨r5, s7⟩ =>
some (r5, s7))
else (
chkI p1 400 (
some (s1.1 14 p1.toNatClampNeg, s1)))
def mX8_clear (σ : St) : Option (Int32 × St) :=
bnd (σ.1 6 0) fun x1 =>
bnd (su σ 6 (fun _ => 0)) fun s2 =>
bnd (su s2 7 (fun _ => 0)) fun s3 =>
bnd (su s3 8 (fun _ => (-1))) fun s4 =>
bnd (su s4 9 (fun _ => 0)) fun s5 =>
some (x1, s5)
def mX8_begin (σ : St) : Option (Int32 × St) :=
bnd (su σ 0 (fun _ => 0)) fun s1 =>
(mX8_clear s1).bind fun ⟨r2, s4⟩ =>
some (r2, s4)
def mX8_add (σ : St) (p1 : Int32) (p2 : Int32) (p3 : Int32) (p4 : Int32) (p5 : Int32) : Option (Int32 × St) :=
chkI (σ.1 6 0) 60 (
bnd (su σ 21 (upd (σ.1 21) (σ.1 6 0).toNatClampNeg p1)) fun s1 =>
chkI (s1.1 6 0) 60 (
bnd (su s1 22 (upd (s1.1 22) (s1.1 6 0).toNatClampNeg p2)) fun s2 =>
chkI (3 * (s2.1 6 0)) 180 (
bnd (su s2 23 (upd (s2.1 23) (3 * (s2.1 6 0)).toNatClampNeg p3)) fun s3 =>
chkI ((3 * (s3.1 6 0)) + 1) 180 (
bnd (su s3 23 (upd (s3.1 23) ((3 * (s3.1 6 0)) + 1).toNatClampNeg p4)) fun s4 =>
chkI ((3 * (s4.1 6 0)) + 2) 180 (
bnd (su s4 23 (upd (s4.1 23) ((3 * (s4.1 6 0)) + 2).toNatClampNeg p5)) fun s5 =>
chkI (s5.1 6 0) 60 (
bnd (su s5 24 (upd (s5.1 24) (s5.1 6 0).toNatClampNeg (s5.1 8 0))) fun s6 =>
chkI (s6.1 9 0) 120 (
bnd (su s6 28 (upd (s6.1 28) (s6.1 9 0).toNatClampNeg (s6.1 6 0))) fun s7 =>
bnd (su s7 9 (fun _ => (s7.1 9 0) + 1)) fun s8 =>
bnd (su s8 6 (fun _ => (s8.1 6 0) + 1)) fun s9 =>
some ((s9.1 6 0) - 1, s9))))))))
def bX8_premisesNow_2 (kh2 : St → Int32 → Option Int32) (σ : St) (v1 : Int32) : Option Int32 :=
if (σ.1 6 0) ≤ v1 then (
some v1)
else (
chkI v1 60 (
if (σ.1 22 v1.toNatClampNeg) = 15 then (
bnd (v1 + 1) fun x4 =>
kh2 σ x4)
else (
some v1)))
abbrev mX8_premisesNow_2 (n : Nat) : St → Int32 → Option Int32 := fx (fun _ _ => none) (bX8_premisesNow_2) n
def mX8_premisesNow (σ : St) : Option Int32 :=
mX8_premisesNow_2 NF σ 0
def mX8_premise_38 (s1 : St) : Option (Int32 × St) :=
(mX8_no s1 2).bind fun ⟨r2, s4⟩ =>
some (r2, s4)
def mX8_premise (σ : St) (p1 : Int32) : Option (Int32 × St) :=
bnd (su σ 0 (fun _ => 0)) fun s5 =>
(mX8_isFormula s5 p1).bind fun r6 =>
if r6 = 0 then (
(mX8_no s5 1).bind fun ⟨r16, s18⟩ =>
some (r16, s18))
else (
(mX8_premisesNow s5).bind fun r9 =>
if r9 < (s5.1 6 0) then (
mX8_premise_38 s5)
else (
if (s5.1 6 0) = 2 then (
mX8_premise_38 s5)
else (
(mX8_add s5 p1 15 0 0 0).bind fun ⟨r13, s15⟩ =>
some (r13, s15))))
def bX8_open_7 (kh7 : St → Int32 → Int32 → Option Int32) (σ : St) (v1 : Int32) (v2 : Int32) : Option Int32 :=
if v2 = (-1) then (
some v1)
else (
bnd (v1 + 1) fun x4 =>
chkI v2 60 (
bnd (σ.1 27 v2.toNatClampNeg) fun x5 =>
kh7 σ x4 x5))
abbrev mX8_open_7 (n : Nat) : St → Int32 → Int32 → Option Int32 := fx (fun _ _ _ => none) (bX8_open_7) n
def mX8_open (σ : St) : Option Int32 :=
bnd (σ.1 8 0) fun x6 =>
mX8_open_7 NF σ 0 x6
def mX8_assume_37 (s1 : St) : Option (Int32 × St) :=
(mX8_no s1 2).bind fun ⟨r2, s4⟩ =>
some (r2, s4)
def mX8_assume (σ : St) (p1 : Int32) : Option (Int32 × St) :=
bnd (su σ 0 (fun _ => 0)) fun s5 =>
(mX8_isFormula s5 p1).bind fun r6 =>
if r6 = 0 then (
(mX8_no s5 1).bind fun ⟨r21, s23⟩ =>
some (r21, s23))
else (
(mX8_open s5).bind fun r9 =>
if r9 = 6 then (
mX8_assume_37 s5)
else (
if (s5.1 6 0) = 60 then (
mX8_assume_37 s5)
else (
chkI (s5.1 7 0) 60 (
bnd (su s5 27 (upd (s5.1 27) (s5.1 7 0).toNatClampNeg (s5.1 8 0))) fun s13 =>
chkI (s13.1 7 0) 60 (
bnd (su s13 25 (upd (s13.1 25) (s13.1 7 0).toNatClampNeg (s13.1 6 0))) fun s14 =>
chkI (s14.1 7 0) 60 (
bnd (su s14 26 (upd (s14.1 26) (s14.1 7 0).toNatClampNeg (-1))) fun s15 =>
bnd (su s15 8 (fun _ => s15.1 7 0)) fun s16 =>
bnd (su s16 7 (fun _ => (s16.1 7 0) + 1)) fun s17 =>
(mX8_add s17 p1 14 0 0 0).bind fun ⟨r18, s20⟩ =>
some (r18, s20)))))))
def mX8_close_57 (s2 : St) (v1 : Int32) : Option (Int32 × St) :=
chkI (s2.1 9 0) 120 (
bnd (su s2 28 (upd (s2.1 28) (s2.1 9 0).toNatClampNeg ((-1) - v1))) fun s3 =>
bnd (su s3 9 (fun _ => (s3.1 9 0) + 1)) fun s4 =>
chkI v1 60 (
bnd (su s4 8 (fun _ => s4.1 27 v1.toNatClampNeg)) fun s5 =>
some (v1, s5)))
def mX8_close_51 (kh26 : St → Int32 → Int32 → Option (Int32 × St)) (s8 : St) (v6 : Int32) (v7 : Int32) : Option (Int32 × St) :=
bnd (v7 + 1) fun x9 =>
kh26 s8 v6 x9
def bX8_close_26 (kh26 : St → Int32 → Int32 → Option (Int32 × St)) (s12 : St) (v10 : Int32) (v11 : Int32) : Option (Int32 × St) :=
if (s12.1 6 0) ≤ v11 then (
mX8_close_57 s12 v10)
else (
chkI v11 60 (
if (s12.1 24 v11.toNatClampNeg) = v10 then (
chkI v10 60 (
bnd (su s12 26 (upd (s12.1 26) v10.toNatClampNeg v11)) fun s15 =>
mX8_close_51 kh26 s15 v10 v11))
else (
mX8_close_51 kh26 s12 v10 v11)))
abbrev mX8_close_26 (n : Nat) : St → Int32 → Int32 → Option (Int32 × St) := fx (fun _ _ _ => none) (bX8_close_26) n
def mX8_close (σ : St) : Option (Int32 × St) :=
bnd (su σ 0 (fun _ => 0)) fun s16 =>
if (s16.1 8 0) = (-1) then (
(mX8_no s16 1).bind fun ⟨r19, s21⟩ =>
some (r19, s21))
else (
bnd (s16.1 8 0) fun x18 =>
mX8_close_26 NF s16 x18 0)
def bX8_areOpen_2 (kh2 : St → Int32 → Option Int32) (σ : St) (v1 : Int32) : Option Int32 :=
if v1 = (-1) then (
some 1)
else (
chkI v1 60 (
if (σ.1 26 v1.toNatClampNeg) = (-1) then (
chkI v1 60 (
bnd (σ.1 27 v1.toNatClampNeg) fun x4 =>
kh2 σ x4))
else (
some 0)))
abbrev mX8_areOpen_2 (n : Nat) : St → Int32 → Option Int32 := fx (fun _ _ => none) (bX8_areOpen_2) n
def mX8_areOpen (σ : St) (p1 : Int32) : Option Int32 :=
mX8_areOpen_2 NF σ p1
def mX8_isLine (σ : St) (p1 : Int32) : Option Int32 :=
(mX8_isIn σ p1 0 ((σ.1 6 0) - 1)).bind fun r1 =>
if r1 = 0 then (
some 0)
else (
chkI p1 60 (
(mX8_areOpen σ (σ.1 24 p1.toNatClampNeg)).bind fun r4 =>
if r4 = 0 then (
some 0)
else (
some 1)))
def mX8_isBox (σ : St) (p1 : Int32) : Option Int32 :=
(mX8_isIn σ p1 0 ((σ.1 7 0) - 1)).bind fun r1 =>
if r1 = 0 then (
some 0)
else (
chkI p1 60 (
if (σ.1 26 p1.toNatClampNeg) = (-1) then (
some 0)
else (
chkI p1 60 (
(mX8_areOpen σ (σ.1 27 p1.toNatClampNeg)).bind fun r5 =>
if r5 = 0 then (
some 0)
else (
some 1)))))
def mX8_needs_46 (σ : St) (v1 : Int32) (v2 : Int32) (v3 : Int32) : Option Int32 :=
chkI v1 16 (
if (σ.1 30 v1.toNatClampNeg) ≤ 1 then (
some ((v3 + v2) + 0))
else (
some ((v3 + v2) + 1)))
def mX8_needs (σ : St) (p1 : Int32) (p2 : Int32) : Option Int32 :=
if 13 ≤ p1 then (
(mX8_isIn σ p2 0 ((σ.1 10 0) - 1)).bind fun r6 =>
if r6 = 0 then (
some 300)
else (
chkI p2 16 (
if (σ.1 30 p2.toNatClampNeg) ≤ 0 then (
mX8_needs_46 σ p2 0 300)
else (
mX8_needs_46 σ p2 10 300))))
else (
chkI p1 13 (
some (kNEEDS p1.toNatClampNeg)))
def mX8_isReference (σ : St) (p1 : Int32) (p2 : Int32) : Option Int32 :=
if p1 = 0 then (
some 1)
else (
if p1 = 1 then (
(mX8_isLine σ p2).bind fun r10 =>
if r10 = 0 then (
some 0)
else (
some 1))
else (
if p1 = 2 then (
(mX8_isBox σ p2).bind fun r7 =>
if r7 = 0 then (
some 0)
else (
some 1))
else (
(mX8_isIn σ p2 0 ((σ.1 10 0) - 1)).bind fun r4 =>
if r4 = 0 then (
some 0)
else (
some 1))))
def bX8_clearStands_2 (kh2 : St → Int32 → Option St) (s2 : St) (v1 : Int32) : Option St :=
if (s2.1 5 0) ≤ v1 then (
some s2)
else (
chkI v1 240 (
bnd (su s2 39 (upd (s2.1 39) v1.toNatClampNeg (-1))) fun s4 =>
bnd (v1 + 1) fun x5 =>
kh2 s4 x5))
abbrev mX8_clearStands_2 (n : Nat) : St → Int32 → Option St := fx (fun _ _ => none) (bX8_clearStands_2) n
def mX8_clearStands (σ : St) : Option St :=
mX8_clearStands_2 NF σ 0
def mX8_becomes_113 (f_X8_becomes : St → Int32 → Int32 → Option (Int32 × St)) (s4 : St) (v1 : Int32) (v2 : Int32) (v3 : Int32) : Option (Int32 × St) :=
if v3 = 0 then (
chkZ v3 (some (v3, s4)))
else (
chkI v1 240 (
bnd (su s4 39 (upd (s4.1 39) v1.toNatClampNeg v2)) fun s6 =>
chkZ v3 (some (v3, s6))))
def mX8_becomes_108 (f_X8_becomes : St → Int32 → Int32 → Option (Int32 × St)) (s9 : St) (v7 : Int32) (v8 : Int32) : Option (Int32 × St) :=
mX8_becomes_113 f_X8_becomes s9 v7 v8 1
def mX8_becomes_112 (f_X8_becomes : St → Int32 → Int32 → Option (Int32 × St)) (s12 : St) (v10 : Int32) (v11 : Int32) : Option (Int32 × St) :=
mX8_becomes_113 f_X8_becomes s12 v10 v11 0
def bX8_becomes (f_X8_becomes : St → Int32 → Int32 → Option (Int32 × St)) (σ : St) (p1 : Int32) (p2 : Int32) : Option (Int32 × St) :=
chkI p1 240 (
if (σ.1 39 p1.toNatClampNeg) = (-1) then (
chkI p1 240 (
if (σ.1 15 p1.toNatClampNeg) = 0 then (
mX8_becomes_108 f_X8_becomes σ p1 p2)
else (
chkI p1 240 (
chkI p2 240 (
if (σ.1 15 p1.toNatClampNeg) = (σ.1 15 p2.toNatClampNeg) then (
chkI p1 240 (
if (σ.1 15 p1.toNatClampNeg) < 2 then (
mX8_becomes_108 f_X8_becomes σ p1 p2)
else (
chkI p1 240 (
chkI p2 240 (
(f_X8_becomes σ (σ.1 16 p1.toNatClampNeg) (σ.1 16 p2.toNatClampNeg)).bind fun ⟨r17, s19⟩ =>
if r17 = 0 then (
mX8_becomes_112 f_X8_becomes s19 p1 p2)
else (
chkI p1 240 (
if (s19.1 15 p1.toNatClampNeg) = 2 then (
mX8_becomes_108 f_X8_becomes s19 p1 p2)
else (
chkI p1 240 (
chkI p2 240 (
(f_X8_becomes s19 (s19.1 17 p1.toNatClampNeg) (s19.1 17 p2.toNatClampNeg)).bind fun ⟨r22, s24⟩ =>
if r22 = 0 then (
mX8_becomes_112 f_X8_becomes s24 p1 p2)
else (
mX8_becomes_108 f_X8_becomes s24 p1 p2)))))))))))
else (
mX8_becomes_112 f_X8_becomes σ p1 p2))))))
else (
chkI p1 240 (
if (σ.1 39 p1.toNatClampNeg) = p2 then (
some (1, σ))
else (
some (0, σ)))))
def gX8_becomes (d : Nat) : (St → Int32 → Int32 → Option (Int32 × St)) := fx (fun _ _ _ => none) (fun F => (bX8_becomes (F))) d
abbrev mX8_becomes : St → Int32 → Int32 → Option (Int32 × St) := (gX8_becomes 256)
def mX8_theoremGives_51 (s4 : St) (v1 : Int32) (v2 : Int32) (v3 : Int32) : Option (Int32 × St) :=
if v3 = 0 then (
chkZ v3 (some (v3, s4)))
else (
chkI v1 16 (
if (s4.1 30 v1.toNatClampNeg) ≤ 1 then (
chkZ v3 (some (v3, s4)))
else (
chkI ((2 * v1) + 1) 32 (
chkI v2 60 (
(mX8_becomes s4 (s4.1 31 ((2 * v1) + 1).toNatClampNeg) (s4.1 21 v2.toNatClampNeg)).bind fun ⟨r7, s9⟩ =>
chkZ r7 (some (r7, s9)))))))
def mX8_theoremGives (σ : St) (p1 : Int32) (p2 : Int32) (p3 : Int32) (p4 : Int32) : Option (Int32 × St) :=
(mX8_clearStands σ).bind fun s11 =>
chkI p2 16 (
(mX8_becomes s11 (s11.1 29 p2.toNatClampNeg) p1).bind fun ⟨r12, s14⟩ =>
if r12 = 0 then (
mX8_theoremGives_51 s14 p2 p4 r12)
else (
chkI p2 16 (
if (s14.1 30 p2.toNatClampNeg) ≤ 0 then (
mX8_theoremGives_51 s14 p2 p4 r12)
else (
chkI (2 * p2) 32 (
chkI p3 60 (
(mX8_becomes s14 (s14.1 31 (2 * p2).toNatClampNeg) (s14.1 21 p3.toNatClampNeg)).bind fun ⟨r17, s19⟩ =>
mX8_theoremGives_51 s19 p2 p4 r17))))))
def mX8_isMade (σ : St) (p1 : Int32) (p2 : Int32) (p3 : Int32) (p4 : Int32) : Option Int32 :=
chkI p1 240 (
if (σ.1 15 p1.toNatClampNeg) = p2 then (
chkI p1 240 (
if (σ.1 16 p1.toNatClampNeg) = p3 then (
chkI p1 240 (
if (σ.1 17 p1.toNatClampNeg) = p4 then (
some 1)
else (
some 0)))
else (
some 0)))
else (
some 0))
def mX8_gives (σ : St) (p1 : Int32) (p2 : Int32) (p3 : Int32) (p4 : Int32) (p5 : Int32) (p6 : Int32) (p7 : Int32) : Option Int32 :=
if p1 = 0 then (
if p2 = p3 then (
some 1)
else (
some 0))
else (
if p1 = 1 then (
(mX8_isMade σ p2 3 p3 p4).bind fun r4 =>
chkZ r4 (some r4))
else (
if p1 = 2 then (
chkI p3 240 (
if p2 = (σ.1 16 p3.toNatClampNeg) then (
some 1)
else (
some 0)))
else (
if p1 = 3 then (
chkI p3 240 (
if p2 = (σ.1 17 p3.toNatClampNeg) then (
some 1)
else (
some 0)))
else (
if p1 = 4 then (
chkI p2 240 (
if (σ.1 15 p2.toNatClampNeg) = 4 then (
chkI p2 240 (
if (σ.1 16 p2.toNatClampNeg) = p3 then (
some 1)
else (
some 0)))
else (
some 0)))
else (
if p1 = 5 then (
chkI p2 240 (
if (σ.1 15 p2.toNatClampNeg) = 4 then (
chkI p2 240 (
if (σ.1 17 p2.toNatClampNeg) = p3 then (
some 1)
else (
some 0)))
else (
some 0)))
else (
if p1 = 6 then (
chkI p6 60 (
chkI (σ.1 25 p6.toNatClampNeg) 60 (
chkI p3 240 (
if (σ.1 21 (σ.1 25 p6.toNatClampNeg).toNatClampNeg) = (σ.1 16 p3.toNatClampNeg) then (
chkI p7 60 (
chkI (σ.1 25 p7.toNatClampNeg) 60 (
chkI p3 240 (
if (σ.1 21 (σ.1 25 p7.toNatClampNeg).toNatClampNeg) = (σ.1 17 p3.toNatClampNeg) then (
chkI p6 60 (
chkI (σ.1 26 p6.toNatClampNeg) 60 (
if (σ.1 21 (σ.1 26 p6.toNatClampNeg).toNatClampNeg) = p2 then (
chkI p7 60 (
chkI (σ.1 26 p7.toNatClampNeg) 60 (
if (σ.1 21 (σ.1 26 p7.toNatClampNeg).toNatClampNeg) = p2 then (
some 1)
else (
some 0))))
else (
some 0))))
else (
some 0)))))
else (
some 0)))))
else (
if p1 = 7 then (
chkI p5 60 (
chkI (σ.1 25 p5.toNatClampNeg) 60 (
(mX8_isMade σ p2 5 (σ.1 21 (σ.1 25 p5.toNatClampNeg).toNatClampNeg) p3).bind fun r22 =>
chkZ r22 (some r22))))
else (
if p1 = 8 then (
chkI p3 240 (
if (σ.1 16 p3.toNatClampNeg) = p4 then (
chkI p3 240 (
if (σ.1 17 p3.toNatClampNeg) = p2 then (
some 1)
else (
some 0)))
else (
some 0)))
else (
if p1 = 9 then (
chkI p5 60 (
chkI (σ.1 25 p5.toNatClampNeg) 60 (
(mX8_isMade σ p2 2 (σ.1 21 (σ.1 25 p5.toNatClampNeg).toNatClampNeg) (-1)).bind fun r28 =>
chkZ r28 (some r28))))
else (
if p1 = 10 then (
chkI p4 240 (
if (σ.1 16 p4.toNatClampNeg) = p3 then (
chkI p2 240 (
if (σ.1 15 p2.toNatClampNeg) = 1 then (
some 1)
else (
some 0)))
else (
some 0)))
else (
if p1 = 11 then (
some 1)
else (
chkI p3 240 (
chkI (σ.1 16 p3.toNatClampNeg) 240 (
if (σ.1 16 (σ.1 16 p3.toNatClampNeg).toNatClampNeg) = p2 then (
some 1)
else (
some 0)))))))))))))))
def mX8_refusal_304 (s9 : St) (v1 : Int32) (v2 : Int32) (v3 : Int32) (v4 : Int32) (v5 : Int32) (v6 : Int32) (v7 : Int32) (v8 : Int32) : Option (Int32 × St) :=
if v8 = 0 then (
some (2, s9))
else (
(mX8_gives s9 v1 v2 v6 v7 v3 v4 v5).bind fun r11 =>
if r11 = 0 then (
some (3, s9))
else (
some (0, s9)))
def mX8_refusal_302 (s22 : St) (v14 : Int32) (v15 : Int32) (v16 : Int32) (v17 : Int32) (v18 : Int32) (v19 : Int32) (v20 : Int32) (v21 : Int32) : Option (Int32 × St) :=
mX8_refusal_304 s22 v14 v15 v16 v17 v18 v19 v20 v21
def mX8_refusal_301 (s30 : St) (v23 : Int32) (v24 : Int32) (v25 : Int32) (v26 : Int32) (v27 : Int32) (v28 : Int32) (v29 : Int32) : Option (Int32 × St) :=
mX8_refusal_302 s30 v23 v24 v25 v26 v27 v28 v29 0
def mX8_refusal_269 (s40 : St) (v31 : Int32) (v32 : Int32) (v33 : Int32) (v34 : Int32) (v35 : Int32) (v36 : Int32) (v37 : Int32) (v38 : Int32) (v39 : Int32) : Option (Int32 × St) :=
if v31 = 12 then (
if v37 = 2 then (
chkI v36 240 (
chkI (s40.1 16 v36.toNatClampNeg) 240 (
if (s40.1 15 (s40.1 16 v36.toNatClampNeg).toNatClampNeg) = 2 then (
mX8_refusal_302 s40 v31 v32 v33 v34 v35 v36 v38 1)
else (
mX8_refusal_301 s40 v31 v32 v33 v34 v35 v36 v38))))
else (
mX8_refusal_301 s40 v31 v32 v33 v34 v35 v36 v38))
else (
mX8_refusal_304 s40 v31 v32 v33 v34 v35 v36 v38 v39)
def mX8_refusal_267 (s53 : St) (v44 : Int32) (v45 : Int32) (v46 : Int32) (v47 : Int32) (v48 : Int32) (v49 : Int32) (v50 : Int32) (v51 : Int32) (v52 : Int32) : Option (Int32 × St) :=
mX8_refusal_269 s53 v44 v45 v46 v47 v48 v49 v50 v51 v52
def mX8_refusal_245 (s63 : St) (v54 : Int32) (v55 : Int32) (v56 : Int32) (v57 : Int32) (v58 : Int32) (v59 : Int32) (v60 : Int32) (v61 : Int32) (v62 : Int32) : Option (Int32 × St) :=
if v54 = 10 then (
chkI v61 240 (
if (s63.1 15 v61.toNatClampNeg) = 2 then (
mX8_refusal_267 s63 v54 v55 v56 v57 v58 v59 v60 v61 1)
else (
mX8_refusal_267 s63 v54 v55 v56 v57 v58 v59 v60 v61 0)))
else (
mX8_refusal_269 s63 v54 v55 v56 v57 v58 v59 v60 v61 v62)
def mX8_refusal_243 (s75 : St) (v66 : Int32) (v67 : Int32) (v68 : Int32) (v69 : Int32) (v70 : Int32) (v71 : Int32) (v72 : Int32) (v73 : Int32) (v74 : Int32) : Option (Int32 × St) :=
mX8_refusal_245 s75 v66 v67 v68 v69 v70 v71 v72 v73 v74
def mX8_refusal_232 (s84 : St) (v76 : Int32) (v77 : Int32) (v78 : Int32) (v79 : Int32) (v80 : Int32) (v81 : Int32) (v82 : Int32) (v83 : Int32) : Option (Int32 × St) :=
if v82 = 1 then (
mX8_refusal_243 s84 v76 v77 v78 v79 v80 v81 v82 v83 1)
else (
mX8_refusal_243 s84 v76 v77 v78 v79 v80 v81 v82 v83 0)
def mX8_refusal_220 (s95 : St) (v86 : Int32) (v87 : Int32) (v88 : Int32) (v89 : Int32) (v90 : Int32) (v91 : Int32) (v92 : Int32) (v93 : Int32) (v94 : Int32) : Option (Int32 × St) :=
if v86 = 9 then (
mX8_refusal_232 s95 v86 v87 v88 v89 v90 v91 v92 v93)
else (
if v86 = 11 then (
mX8_refusal_232 s95 v86 v87 v88 v89 v90 v91 v92 v93)
else (
mX8_refusal_245 s95 v86 v87 v88 v89 v90 v91 v92 v93 v94))
def mX8_refusal_218 (s107 : St) (v98 : Int32) (v99 : Int32) (v100 : Int32) (v101 : Int32) (v102 : Int32) (v103 : Int32) (v104 : Int32) (v105 : Int32) (v106 : Int32) : Option (Int32 × St) :=
mX8_refusal_220 s107 v98 v99 v100 v101 v102 v103 v104 v105 v106
def mX8_refusal_201 (s117 : St) (v108 : Int32) (v109 : Int32) (v110 : Int32) (v111 : Int32) (v112 : Int32) (v113 : Int32) (v114 : Int32) (v115 : Int32) (v116 : Int32) : Option (Int32 × St) :=
if v108 = 8 then (
if v114 = 5 then (
mX8_refusal_218 s117 v108 v109 v110 v111 v112 v113 v114 v115 1)
else (
mX8_refusal_218 s117 v108 v109 v110 v111 v112 v113 v114 v115 0))
else (
mX8_refusal_220 s117 v108 v109 v110 v111 v112 v113 v114 v115 v116)
def mX8_refusal_199 (s129 : St) (v120 : Int32) (v121 : Int32) (v122 : Int32) (v123 : Int32) (v124 : Int32) (v125 : Int32) (v126 : Int32) (v127 : Int32) (v128 : Int32) : Option (Int32 × St) :=
mX8_refusal_201 s129 v120 v121 v122 v123 v124 v125 v126 v127 v128
def mX8_refusal_182 (s139 : St) (v130 : Int32) (v131 : Int32) (v132 : Int32) (v133 : Int32) (v134 : Int32) (v135 : Int32) (v136 : Int32) (v137 : Int32) (v138 : Int32) : Option (Int32 × St) :=
if v130 = 6 then (
if v136 = 4 then (
mX8_refusal_199 s139 v130 v131 v132 v133 v134 v135 v136 v137 1)
else (
mX8_refusal_199 s139 v130 v131 v132 v133 v134 v135 v136 v137 0))
else (
mX8_refusal_201 s139 v130 v131 v132 v133 v134 v135 v136 v137 v138)
def mX8_refusal_180 (s151 : St) (v142 : Int32) (v143 : Int32) (v144 : Int32) (v145 : Int32) (v146 : Int32) (v147 : Int32) (v148 : Int32) (v149 : Int32) (v150 : Int32) : Option (Int32 × St) :=
mX8_refusal_182 s151 v142 v143 v144 v145 v146 v147 v148 v149 v150
def mX8_refusal_169 (s160 : St) (v152 : Int32) (v153 : Int32) (v154 : Int32) (v155 : Int32) (v156 : Int32) (v157 : Int32) (v158 : Int32) (v159 : Int32) : Option (Int32 × St) :=
if v158 = 3 then (
mX8_refusal_180 s160 v152 v153 v154 v155 v156 v157 v158 v159 1)
else (
mX8_refusal_180 s160 v152 v153 v154 v155 v156 v157 v158 v159 0)
def mX8_refusal_154 (s170 : St) (v162 : Int32) (v163 : Int32) (v164 : Int32) (v165 : Int32) (v166 : Int32) (v167 : Int32) (v168 : Int32) (v169 : Int32) : Option (Int32 × St) :=
if v162 = 2 then (
mX8_refusal_169 s170 v162 v163 v164 v165 v166 v167 v168 v169)
else (
if v162 = 3 then (
mX8_refusal_169 s170 v162 v163 v164 v165 v166 v167 v168 v169)
else (
mX8_refusal_182 s170 v162 v163 v164 v165 v166 v167 v168 v169 1))
def mX8_refusal_120 (s180 : St) (v173 : Int32) (v174 : Int32) (v175 : Int32) (v176 : Int32) (v177 : Int32) (v178 : Int32) (v179 : Int32) : Option (Int32 × St) :=
chkI v179 240 (
bnd (s180.1 15 v179.toNatClampNeg) fun x181 =>
if ((v178 / 10) - (v178 / 10) / 10 * 10) = 1 then (
chkI v176 60 (
mX8_refusal_154 s180 v173 v174 v175 v176 v177 v179 x181 (s180.1 21 v176.toNatClampNeg)))
else (
mX8_refusal_154 s180 v173 v174 v175 v176 v177 v179 x181 (-1)))
def mX8_refusal_93 (s190 : St) (v183 : Int32) (v184 : Int32) (v185 : Int32) (v186 : Int32) (v187 : Int32) (v188 : Int32) (v189 : Int32) : Option (Int32 × St) :=
if v189 = 0 then (
chkI v185 60 (
mX8_refusal_120 s190 v183 v184 v185 v186 v187 v188 (s190.1 21 v185.toNatClampNeg)))
else (
chkI v185 60 (
chkI (s190.1 26 v185.toNatClampNeg) 60 (
mX8_refusal_120 s190 v183 v184 v185 v186 v187 v188 (s190.1 21 (s190.1 26 v185.toNatClampNeg).toNatClampNeg))))
def mX8_refusal (σ : St) (p1 : Int32) (p2 : Int32) (p3 : Int32) (p4 : Int32) (p5 : Int32) : Option (Int32 × St) :=
(mX8_needs σ p1 p3).bind fun r192 =>
(mX8_isReference σ (r192 / 100) p3).bind fun r194 =>
if r194 = 0 then (
some (1, σ))
else (
(mX8_isReference σ ((r192 / 10) - (r192 / 10) / 10 * 10) p4).bind fun r197 =>
if r197 = 0 then (
some (1, σ))
else (
(mX8_isReference σ (r192 - r192 / 10 * 10) p5).bind fun r200 =>
if r200 = 0 then (
some (1, σ))
else (
if p1 = 13 then (
(mX8_theoremGives σ p2 p3 p4 p5).bind fun ⟨r205, s207⟩ =>
if r205 = 0 then (
some (3, s207))
else (
some (0, s207)))
else (
if (r192 / 100) = 2 then (
mX8_refusal_93 σ p1 p2 p3 p4 p5 r192 1)
else (
mX8_refusal_93 σ p1 p2 p3 p4 p5 r192 0)))))
def mX8_step_114 (s8 : St) (v1 : Int32) (v2 : Int32) (v3 : Int32) (v4 : Int32) (v5 : Int32) (v6 : Int32) (v7 : Int32) : Option (Int32 × St) :=
(mX8_add s8 v7 v6 v5 v4 v3).bind fun ⟨r9, s11⟩ =>
if v1 = 13 then (
chkI v2 16 (
chkI v2 16 (
bnd (su s11 34 (upd (s11.1 34) v2.toNatClampNeg ((s11.1 34 v2.toNatClampNeg) + 1))) fun s13 =>
some (0, s13))))
else (
some (0, s11))
def mX8_step_100 (s22 : St) (v14 : Int32) (v15 : Int32) (v16 : Int32) (v17 : Int32) (v18 : Int32) (v19 : Int32) (v20 : Int32) (v21 : Int32) : Option (Int32 × St) :=
if (v17 - v17 / 10 * 10) = 0 then (
mX8_step_114 s22 v14 v15 0 v18 v19 v20 v21)
else (
mX8_step_114 s22 v14 v15 v16 v18 v19 v20 v21)
def mX8_step (σ : St) (p1 : Int32) (p2 : Int32) (p3 : Int32) (p4 : Int32) (p5 : Int32) : Option (Int32 × St) :=
bnd (su σ 0 (fun _ => 0)) fun s24 =>
(mX8_isIn s24 p1 0 13).bind fun r25 =>
if r25 = 0 then (
(mX8_no s24 1).bind fun ⟨r45, s47⟩ =>
some (r45, s47))
else (
(mX8_isFormula s24 p2).bind fun r28 =>
if r28 = 0 then (
(mX8_no s24 2).bind fun ⟨r42, s44⟩ =>
some (r42, s44))
else (
if (s24.1 6 0) = 60 then (
(mX8_no s24 3).bind fun ⟨r39, s41⟩ =>
some (r39, s41))
else (
(mX8_refusal s24 p1 p2 p3 p4 p5).bind fun ⟨r32, s34⟩ =>
if r32 = 0 then (
(mX8_needs s34 p1 p3).bind fun r36 =>
if ((r36 / 10) - (r36 / 10) / 10 * 10) = 0 then (
mX8_step_100 s34 p1 p3 p5 r36 0 p3 p1 p2)
else (
mX8_step_100 s34 p1 p3 p5 r36 p4 p3 p1 p2))
else (
some (r32, s34)))))
def mX8_undo (σ : St) : Option (Int32 × St) :=
bnd (su σ 0 (fun _ => 0)) fun s1 =>
if (s1.1 9 0) = 0 then (
(mX8_no s1 1).bind fun ⟨r13, s15⟩ =>
some (r13, s15))
else (
bnd (su s1 9 (fun _ => (s1.1 9 0) - 1)) fun s3 =>
chkI (s3.1 9 0) 120 (
bnd (s3.1 28 (s3.1 9 0).toNatClampNeg) fun x4 =>
if 0 ≤ x4 then (
bnd (su s3 6 (fun _ => (s3.1 6 0) - 1)) fun s6 =>
chkI (s6.1 6 0) 60 (
if (s6.1 22 (s6.1 6 0).toNatClampNeg) = 14 then (
bnd (su s6 7 (fun _ => (s6.1 7 0) - 1)) fun s8 =>
chkI (s8.1 7 0) 60 (
bnd (su s8 8 (fun _ => s8.1 27 (s8.1 7 0).toNatClampNeg)) fun s9 =>
some (s9.1 6 0, s9)))
else (
some (s6.1 6 0, s6))))
else (
bnd ((-1) - x4) fun x10 =>
chkI x10 60 (
bnd (su s3 26 (upd (s3.1 26) x10.toNatClampNeg (-1))) fun s11 =>
bnd (su s11 8 (fun _ => x10)) fun s12 =>
some (s12.1 6 0, s12)))))
def mX8_need_12 (s3 : St) (v1 : Int32) (v2 : Int32) : Option St :=
if v1 = 2 then (
chkI v2 60 (
chkI (s3.1 25 v2.toNatClampNeg) 60 (
bnd (su s3 40 (upd (s3.1 40) (s3.1 25 v2.toNatClampNeg).toNatClampNeg (vp_nar .boolean 1))) fun s5 =>
chkI v2 60 (
chkI (s5.1 26 v2.toNatClampNeg) 60 (
bnd (su s5 40 (upd (s5.1 40) (s5.1 26 v2.toNatClampNeg).toNatClampNeg (vp_nar .boolean 1))) fun s6 =>
some s6)))))
else (
some s3)
def mX8_need (σ : St) (p1 : Int32) (p2 : Int32) : Option St :=
if p1 = 1 then (
chkI p2 60 (
bnd (su σ 40 (upd (σ.1 40) p2.toNatClampNeg (vp_nar .boolean 1))) fun s8 =>
mX8_need_12 s8 p1 p2))
else (
mX8_need_12 σ p1 p2)
def mX8_look_153 (kh46 : St → Int32 → Int32 → Option (Int32 × St)) (s3 : St) (v1 : Int32) (v2 : Int32) : Option (Int32 × St) :=
bnd (v2 + (-1)) fun x4 =>
kh46 s3 v1 x4
def bX8_look_46 (kh46 : St → Int32 → Int32 → Option (Int32 × St)) (s7 : St) (v5 : Int32) (v6 : Int32) : Option (Int32 × St) :=
if v6 < 0 then (
some (v5, s7))
else (
chkI v6 60 (
if (s7.1 40 v6.toNatClampNeg) = 0 then (
mX8_look_153 kh46 s7 v5 v6)
else (
bnd (v5 + 1) fun x10 =>
chkI v6 60 (
if (s7.1 22 v6.toNatClampNeg) < 14 then (
chkI v6 60 (
chkI (3 * v6) 180 (
(mX8_needs s7 (s7.1 22 v6.toNatClampNeg) (s7.1 23 (3 * v6).toNatClampNeg)).bind fun r12 =>
chkI (3 * v6) 180 (
(mX8_need s7 (r12 / 100) (s7.1 23 (3 * v6).toNatClampNeg)).bind fun s15 =>
chkI ((3 * v6) + 1) 180 (
(mX8_need s15 ((r12 / 10) - (r12 / 10) / 10 * 10) (s15.1 23 ((3 * v6) + 1).toNatClampNeg)).bind fun s17 =>
chkI ((3 * v6) + 2) 180 (
(mX8_need s17 (r12 - r12 / 10 * 10) (s17.1 23 ((3 * v6) + 2).toNatClampNeg)).bind fun s19 =>
mX8_look_153 kh46 s19 x10 v6))))))
else (
mX8_look_153 kh46 s7 x10 v6)))))
abbrev mX8_look_46 (n : Nat) : St → Int32 → Int32 → Option (Int32 × St) := fx (fun _ _ _ => none) (bX8_look_46) n
def mX8_look_37 (s20 : St) : Option (Int32 × St) :=
bnd ((s20.1 6 0) - 1) fun x21 =>
mX8_look_46 NF s20 0 x21
def mX8_look_30 (kh2 : St → Int32 → Option (Int32 × St)) (s25 : St) (v22 : Int32) (v23 : Int32) (v24 : Int32) : Option (Int32 × St) :=
chkI v24 60 (
bnd (su s25 40 (upd (s25.1 40) v24.toNatClampNeg (vp_nar .boolean v23))) fun s26 =>
bnd (v22 + 1) fun x27 =>
kh2 s26 x27)
def bX8_look_2 (kh2 : St → Int32 → Option (Int32 × St)) (s29 : St) (v28 : Int32) : Option (Int32 × St) :=
if (s29.1 6 0) ≤ v28 then (
mX8_look_37 s29)
else (
if (v28 + 1) = (s29.1 6 0) then (
mX8_look_30 kh2 s29 v28 1 v28)
else (
mX8_look_30 kh2 s29 v28 0 v28))
abbrev mX8_look_2 (n : Nat) : St → Int32 → Option (Int32 × St) := fx (fun _ _ => none) (bX8_look_2) n
def mX8_look (σ : St) : Option (Int32 × St) :=
mX8_look_2 NF σ 0
def mX8_counted (σ : St) (p1 : Int32) : Option (Int32 × St) :=
bnd (su σ 42 (fun _ => 0)) fun s1 =>
chkI 0 9 (
bnd (su s1 42 (upd (s1.1 42) (0 : Int32).toNatClampNeg (s1.1 5 0))) fun s2 =>
chkI 1 9 (
bnd (su s2 42 (upd (s2.1 42) (1 : Int32).toNatClampNeg (s2.1 1 0))) fun s3 =>
chkI 2 9 (
bnd (su s3 42 (upd (s3.1 42) (2 : Int32).toNatClampNeg (s3.1 4 0))) fun s4 =>
chkI 3 9 (
bnd (su s4 42 (upd (s4.1 42) (3 : Int32).toNatClampNeg (s4.1 6 0))) fun s5 =>
chkI 4 9 (
bnd (su s5 42 (upd (s5.1 42) (4 : Int32).toNatClampNeg (s5.1 7 0))) fun s6 =>
(mX8_open s6).bind fun r7 =>
bnd (su s6 42 (s6.1 42)) fun s9 =>
chkI 5 9 (
bnd (su s9 42 (upd (s9.1 42) (5 : Int32).toNatClampNeg r7)) fun s10 =>
(mX8_premisesNow s10).bind fun r11 =>
bnd (su s10 42 (s10.1 42)) fun s13 =>
chkI 6 9 (
bnd (su s13 42 (upd (s13.1 42) (6 : Int32).toNatClampNeg r11)) fun s14 =>
chkI 7 9 (
bnd (su s14 42 (upd (s14.1 42) (7 : Int32).toNatClampNeg (s14.1 10 0))) fun s15 =>
(mX8_look s15).bind fun ⟨r16, s18⟩ =>
bnd (su s18 42 (s15.1 42)) fun s19 =>
chkI 8 9 (
bnd (su s19 42 (upd (s19.1 42) (8 : Int32).toNatClampNeg r16)) fun s20 =>
chkI p1 9 (
some (s20.1 42 p1.toNatClampNeg, s20)))))))))))
def mX8_count (σ : St) (p1 : Int32) : Option (Int32 × St) :=
bnd (su σ 0 (fun _ => 0)) fun s1 =>
(mX8_isIn s1 p1 0 8).bind fun r2 =>
if r2 = 0 then (
(mX8_no s1 1).bind fun ⟨r5, s7⟩ =>
some (r5, s7))
else (
(mX8_counted s1 p1).bind fun ⟨r8, s10⟩ =>
some (r8, s10))
def mX8_lineTold (σ : St) (p1 : Int32) (p2 : Int32) : Option (Int32 × St) :=
if 2 ≤ p2 then (
if 5 ≤ p2 then (
if p2 = 5 then (
chkI p1 60 (
some (σ.1 24 p1.toNatClampNeg, σ)))
else (
if p2 = 6 then (
(mX8_isLine σ p1).bind fun r9 =>
if r9 = 0 then (
some (0, σ))
else (
some (1, σ)))
else (
(mX8_look σ).bind fun ⟨r5, s7⟩ =>
chkI p1 60 (
if (s7.1 40 p1.toNatClampNeg) = 0 then (
some (0, s7))
else (
some (1, s7))))))
else (
chkI (((3 * p1) + p2) - 2) 180 (
some (σ.1 23 (((3 * p1) + p2) - 2).toNatClampNeg, σ))))
else (
if p2 = 0 then (
chkI p1 60 (
some (σ.1 21 p1.toNatClampNeg, σ)))
else (
chkI p1 60 (
some (σ.1 22 p1.toNatClampNeg, σ))))
def mX8_line_38 (s1 : St) : Option (Int32 × St) :=
(mX8_no s1 1).bind fun ⟨r2, s4⟩ =>
some (r2, s4)
def mX8_line (σ : St) (p1 : Int32) (p2 : Int32) : Option (Int32 × St) :=
bnd (su σ 0 (fun _ => 0)) fun s5 =>
(mX8_isIn s5 p1 0 ((s5.1 6 0) - 1)).bind fun r6 =>
if r6 = 0 then (
mX8_line_38 s5)
else (
(mX8_isIn s5 p2 0 7).bind fun r9 =>
if r9 = 0 then (
mX8_line_38 s5)
else (
(mX8_lineTold s5 p1 p2).bind fun ⟨r12, s14⟩ =>
some (r12, s14)))
def mX8_boxTold (σ : St) (p1 : Int32) (p2 : Int32) : Option Int32 :=
if p2 = 0 then (
chkI p1 60 (
some (σ.1 25 p1.toNatClampNeg)))
else (
if p2 = 1 then (
chkI p1 60 (
some (σ.1 26 p1.toNatClampNeg)))
else (
if p2 = 2 then (
chkI p1 60 (
some (σ.1 27 p1.toNatClampNeg)))
else (
(mX8_isBox σ p1).bind fun r4 =>
if r4 = 0 then (
some 0)
else (
some 1))))
def mX8_box_37 (s1 : St) : Option (Int32 × St) :=
(mX8_no s1 1).bind fun ⟨r2, s4⟩ =>
some (r2, s4)
def mX8_box (σ : St) (p1 : Int32) (p2 : Int32) : Option (Int32 × St) :=
bnd (su σ 0 (fun _ => 0)) fun s5 =>
(mX8_isIn s5 p1 0 ((s5.1 7 0) - 1)).bind fun r6 =>
if r6 = 0 then (
mX8_box_37 s5)
else (
(mX8_isIn s5 p2 0 3).bind fun r9 =>
if r9 = 0 then (
mX8_box_37 s5)
else (
(mX8_boxTold s5 p1 p2).bind fun r12 =>
some (r12, s5)))
def mX8_fails_178 (kh35 : St → Int32 → Int32 → Int32 → Int32 → Option (Int32 × St)) (s6 : St) (v1 : Int32) (v2 : Int32) (v3 : Int32) (v4 : Int32) (v5 : Int32) : Option (Int32 × St) :=
bnd (v5 + v4) fun x7 =>
bnd (v3 + 1) fun x8 =>
kh35 s6 v1 x7 v2 x8
def mX8_fails_167 (kh35 : St → Int32 → Int32 → Int32 → Int32 → Option (Int32 × St)) (s14 : St) (v9 : Int32) (v10 : Int32) (v11 : Int32) (v12 : Int32) (v13 : Int32) : Option (Int32 × St) :=
if v13 = 0 then (
mX8_fails_178 kh35 s14 v9 v11 v12 0 v10)
else (
mX8_fails_178 kh35 s14 v9 v11 v12 1 v10)
def mX8_fails_153 (kh35 : St → Int32 → Int32 → Int32 → Int32 → Option (Int32 × St)) (kh116 : St → Int32 → Int32 → Int32 → Int32 → Int32 → Int32 → Option (Int32 × St)) (s22 : St) (v16 : Int32) (v17 : Int32) (v18 : Int32) (v19 : Int32) (v20 : Int32) (v21 : Int32) : Option (Int32 × St) :=
chkI v20 60 (
bnd (s22.1 27 v20.toNatClampNeg) fun x23 =>
kh116 s22 v16 v17 v18 v19 v21 x23)
def mX8_fails_152 (kh35 : St → Int32 → Int32 → Int32 → Int32 → Option (Int32 × St)) (kh116 : St → Int32 → Int32 → Int32 → Int32 → Int32 → Int32 → Option (Int32 × St)) (s29 : St) (v24 : Int32) (v25 : Int32) (v26 : Int32) (v27 : Int32) (v28 : Int32) : Option (Int32 × St) :=
mX8_fails_153 kh35 kh116 s29 v24 v25 v26 v27 v28 0
def bX8_fails_116 (kh35 : St → Int32 → Int32 → Int32 → Int32 → Option (Int32 × St)) (kh116 : St → Int32 → Int32 → Int32 → Int32 → Int32 → Int32 → Option (Int32 × St)) (s36 : St) (v30 : Int32) (v31 : Int32) (v32 : Int32) (v33 : Int32) (v34 : Int32) (v35 : Int32) : Option (Int32 × St) :=
if v35 = (-1) then (
mX8_fails_167 kh35 s36 v30 v31 v32 v33 v34)
else (
if v34 = 0 then (
mX8_fails_152 kh35 kh116 s36 v30 v31 v32 v33 v35)
else (
chkI v35 60 (
chkI (s36.1 25 v35.toNatClampNeg) 60 (
(mX8_isTrueAt s36 (s36.1 21 (s36.1 25 v35.toNatClampNeg).toNatClampNeg) v33).bind fun r39 =>
if r39 = 0 then (
mX8_fails_152 kh35 kh116 s36 v30 v31 v32 v33 v35)
else (
mX8_fails_153 kh35 kh116 s36 v30 v31 v32 v33 v35 1)))))
abbrev mX8_fails_116 (kh35 : St → Int32 → Int32 → Int32 → Int32 → Option (Int32 × St)) (n : Nat) : St → Int32 → Int32 → Int32 → Int32 → Int32 → Int32 → Option (Int32 × St) := fx (fun _ _ _ _ _ _ _ => none) (bX8_fails_116 kh35) n
def mX8_fails_108 (kh35 : St → Int32 → Int32 → Int32 → Int32 → Option (Int32 × St)) (s47 : St) (v42 : Int32) (v43 : Int32) (v44 : Int32) (v45 : Int32) (v46 : Int32) : Option (Int32 × St) :=
chkI v42 60 (
bnd (s47.1 24 v42.toNatClampNeg) fun x48 =>
mX8_fails_116 kh35 NF s47 v42 v43 v44 v45 v46 x48)
def mX8_fails_100 (kh35 : St → Int32 → Int32 → Int32 → Int32 → Option (Int32 × St)) (kh68 : St → Int32 → Int32 → Int32 → Int32 → Int32 → Int32 → Option (Int32 × St)) (s55 : St) (v49 : Int32) (v50 : Int32) (v51 : Int32) (v52 : Int32) (v53 : Int32) (v54 : Int32) : Option (Int32 × St) :=
bnd (v53 + 1) fun x56 =>
kh68 s55 v49 v50 v51 v52 v54 x56
def mX8_fails_99 (kh35 : St → Int32 → Int32 → Int32 → Int32 → Option (Int32 × St)) (kh68 : St → Int32 → Int32 → Int32 → Int32 → Int32 → Int32 → Option (Int32 × St)) (s62 : St) (v57 : Int32) (v58 : Int32) (v59 : Int32) (v60 : Int32) (v61 : Int32) : Option (Int32 × St) :=
mX8_fails_100 kh35 kh68 s62 v57 v58 v59 v60 v61 0
def bX8_fails_68 (kh35 : St → Int32 → Int32 → Int32 → Int32 → Option (Int32 × St)) (kh68 : St → Int32 → Int32 → Int32 → Int32 → Int32 → Int32 → Option (Int32 × St)) (s69 : St) (v63 : Int32) (v64 : Int32) (v65 : Int32) (v66 : Int32) (v67 : Int32) (v68 : Int32) : Option (Int32 × St) :=
if v65 ≤ v68 then (
mX8_fails_108 kh35 s69 v63 v64 v65 v66 v67)
else (
if v67 = 0 then (
mX8_fails_99 kh35 kh68 s69 v63 v64 v65 v66 v68)
else (
chkI v68 60 (
(mX8_isTrueAt s69 (s69.1 21 v68.toNatClampNeg) v66).bind fun r72 =>
if r72 = 0 then (
mX8_fails_99 kh35 kh68 s69 v63 v64 v65 v66 v68)
else (
mX8_fails_100 kh35 kh68 s69 v63 v64 v65 v66 v68 1))))
abbrev mX8_fails_68 (kh35 : St → Int32 → Int32 → Int32 → Int32 → Option (Int32 × St)) (n : Nat) : St → Int32 → Int32 → Int32 → Int32 → Int32 → Int32 → Option (Int32 × St) := fx (fun _ _ _ _ _ _ _ => none) (bX8_fails_68 kh35) n
def mX8_fails_63 (kh35 : St → Int32 → Int32 → Int32 → Int32 → Option (Int32 × St)) (s80 : St) (v75 : Int32) (v76 : Int32) (v77 : Int32) (v78 : Int32) (v79 : Int32) : Option (Int32 × St) :=
mX8_fails_68 kh35 NF s80 v75 v76 v77 v78 v79 0
def bX8_fails_35 (kh35 : St → Int32 → Int32 → Int32 → Int32 → Option (Int32 × St)) (s85 : St) (v81 : Int32) (v82 : Int32) (v83 : Int32) (v84 : Int32) : Option (Int32 × St) :=
if 256 ≤ v84 then (
some (v82, s85))
else (
chkI v81 60 (
(mX8_isTrueAt s85 (s85.1 21 v81.toNatClampNeg) v84).bind fun r87 =>
if r87 = 0 then (
mX8_fails_63 kh35 s85 v81 v82 v83 v84 1)
else (
mX8_fails_63 kh35 s85 v81 v82 v83 v84 0)))
abbrev mX8_fails_35 (n : Nat) : St → Int32 → Int32 → Int32 → Int32 → Option (Int32 × St) := fx (fun _ _ _ _ _ => none) (bX8_fails_35) n
def mX8_fails (σ : St) (p1 : Int32) : Option (Int32 × St) :=
bnd (su σ 0 (fun _ => 0)) fun s90 =>
(mX8_isIn s90 p1 0 ((s90.1 6 0) - 1)).bind fun r91 =>
if r91 = 0 then (
(mX8_no s90 1).bind fun ⟨r96, s98⟩ =>
some (r96, s98))
else (
(mX8_premisesNow s90).bind fun r94 =>
mX8_fails_35 NF s90 p1 0 r94 0)
def mX8_reach (σ : St) (p1 : Int32) : Option Int32 :=
if p1 = 0 then (
some 1)
else (
if p1 = 1 then (
some (σ.1 6 0))
else (
some (σ.1 7 0)))
def mX8_findHint_83 (s5 : St) (v1 : Int32) (v2 : Int32) (v3 : Int32) (v4 : Int32) : Option (Int32 × St) :=
chkI 0 4 (
bnd (su s5 41 (upd (s5.1 41) (0 : Int32).toNatClampNeg v1)) fun s6 =>
chkI 1 4 (
bnd (su s6 41 (upd (s6.1 41) (1 : Int32).toNatClampNeg v2)) fun s7 =>
chkI 2 4 (
bnd (su s7 41 (upd (s7.1 41) (2 : Int32).toNatClampNeg v3)) fun s8 =>
chkI 3 4 (
bnd (su s8 41 (upd (s8.1 41) (3 : Int32).toNatClampNeg v4)) fun s9 =>
some (1, s9)))))
def mX8_findHint_134 (kh2 : St → Int32 → Int32 → Option (Int32 × St)) (s12 : St) (v10 : Int32) (v11 : Int32) : Option (Int32 × St) :=
bnd (v11 + 1) fun x13 =>
kh2 s12 v10 x13
def mX8_findHint_128 (kh2 : St → Int32 → Int32 → Option (Int32 × St)) (kh17 : St → Int32 → Int32 → Int32 → Int32 → Option (Int32 × St)) (s18 : St) (v14 : Int32) (v15 : Int32) (v16 : Int32) (v17 : Int32) : Option (Int32 × St) :=
bnd (v17 + 1) fun x19 =>
kh17 s18 v14 v15 v16 x19
def mX8_findHint_122 (kh2 : St → Int32 → Int32 → Option (Int32 × St)) (kh17 : St → Int32 → Int32 → Int32 → Int32 → Option (Int32 × St)) (kh33 : St → Int32 → Int32 → Int32 → Int32 → Int32 → Option (Int32 × St)) (s25 : St) (v20 : Int32) (v21 : Int32) (v22 : Int32) (v23 : Int32) (v24 : Int32) : Option (Int32 × St) :=
bnd (v24 + 1) fun x26 =>
kh33 s25 v20 v21 v22 v23 x26
def bX8_findHint_52 (kh2 : St → Int32 → Int32 → Option (Int32 × St)) (kh17 : St → Int32 → Int32 → Int32 → Int32 → Option (Int32 × St)) (kh33 : St → Int32 → Int32 → Int32 → Int32 → Int32 → Option (Int32 × St)) (kh52 : St → Int32 → Int32 → Int32 → Int32 → Int32 → Int32 → Option (Int32 × St)) (s33 : St) (v27 : Int32) (v28 : Int32) (v29 : Int32) (v30 : Int32) (v31 : Int32) (v32 : Int32) : Option (Int32 × St) :=
(mX8_reach s33 (v29 - v29 / 10 * 10)).bind fun r34 =>
if r34 ≤ v32 then (
mX8_findHint_122 kh2 kh17 kh33 s33 v27 v28 v29 v30 v31)
else (
(mX8_refusal s33 v28 v27 v30 v31 v32).bind fun ⟨r37, s39⟩ =>
if r37 = 0 then (
mX8_findHint_83 s39 v28 v30 v31 v32)
else (
bnd (v32 + 1) fun x41 =>
kh52 s39 v27 v28 v29 v30 v31 x41))
abbrev mX8_findHint_52 (kh2 : St → Int32 → Int32 → Option (Int32 × St)) (kh17 : St → Int32 → Int32 → Int32 → Int32 → Option (Int32 × St)) (kh33 : St → Int32 → Int32 → Int32 → Int32 → Int32 → Option (Int32 × St)) (n : Nat) : St → Int32 → Int32 → Int32 → Int32 → Int32 → Int32 → Option (Int32 × St) := fx (fun _ _ _ _ _ _ _ => none) (bX8_findHint_52 kh2 kh17 kh33) n
def bX8_findHint_33 (kh2 : St → Int32 → Int32 → Option (Int32 × St)) (kh17 : St → Int32 → Int32 → Int32 → Int32 → Option (Int32 × St)) (kh33 : St → Int32 → Int32 → Int32 → Int32 → Int32 → Option (Int32 × St)) (s47 : St) (v42 : Int32) (v43 : Int32) (v44 : Int32) (v45 : Int32) (v46 : Int32) : Option (Int32 × St) :=
(mX8_reach s47 ((v44 / 10) - (v44 / 10) / 10 * 10)).bind fun r48 =>
if r48 ≤ v46 then (
mX8_findHint_128 kh2 kh17 s47 v42 v43 v44 v45)
else (
mX8_findHint_52 kh2 kh17 kh33 NF s47 v42 v43 v44 v45 v46 0)
abbrev mX8_findHint_33 (kh2 : St → Int32 → Int32 → Option (Int32 × St)) (kh17 : St → Int32 → Int32 → Int32 → Int32 → Option (Int32 × St)) (n : Nat) : St → Int32 → Int32 → Int32 → Int32 → Int32 → Option (Int32 × St) := fx (fun _ _ _ _ _ _ => none) (bX8_findHint_33 kh2 kh17) n
def bX8_findHint_17 (kh2 : St → Int32 → Int32 → Option (Int32 × St)) (kh17 : St → Int32 → Int32 → Int32 → Int32 → Option (Int32 × St)) (s55 : St) (v51 : Int32) (v52 : Int32) (v53 : Int32) (v54 : Int32) : Option (Int32 × St) :=
(mX8_reach s55 (v53 / 100)).bind fun r56 =>
if r56 ≤ v54 then (
mX8_findHint_134 kh2 s55 v51 v52)
else (
mX8_findHint_33 kh2 kh17 NF s55 v51 v52 v53 v54 0)
abbrev mX8_findHint_17 (kh2 : St → Int32 → Int32 → Option (Int32 × St)) (n : Nat) : St → Int32 → Int32 → Int32 → Int32 → Option (Int32 × St) := fx (fun _ _ _ _ _ => none) (bX8_findHint_17 kh2) n
def bX8_findHint_2 (kh2 : St → Int32 → Int32 → Option (Int32 × St)) (s61 : St) (v59 : Int32) (v60 : Int32) : Option (Int32 × St) :=
if 13 ≤ v60 then (
some (0, s61))
else (
chkI v60 13 (
bnd (kNEEDS v60.toNatClampNeg) fun x63 =>
mX8_findHint_17 kh2 NF s61 v59 v60 x63 0))
abbrev mX8_findHint_2 (n : Nat) : St → Int32 → Int32 → Option (Int32 × St) := fx (fun _ _ _ => none) (bX8_findHint_2) n
def mX8_findHint (σ : St) (p1 : Int32) : Option (Int32 × St) :=
mX8_findHint_2 NF σ p1 0
def mX8_hint_22 (s1 : St) : Option (Int32 × St) :=
(mX8_no s1 1).bind fun ⟨r2, s4⟩ =>
some (r2, s4)
def mX8_hint (σ : St) (p1 : Int32) (p2 : Int32) : Option (Int32 × St) :=
bnd (su σ 0 (fun _ => 0)) fun s5 =>
(mX8_isFormula s5 p1).bind fun r6 =>
if r6 = 0 then (
mX8_hint_22 s5)
else (
(mX8_isIn s5 p2 0 3).bind fun r9 =>
if r9 = 0 then (
mX8_hint_22 s5)
else (
(mX8_findHint s5 p1).bind fun ⟨r12, s14⟩ =>
if r12 = 0 then (
some ((-1), s14))
else (
chkI p2 4 (
some (s14.1 41 p2.toNatClampNeg, s14)))))
def mX8_end_44 (s1 : St) : Option (Int32 × St) :=
(mX8_no s1 1).bind fun ⟨r2, s4⟩ =>
some (r2, s4)
def mX8_end_125 (s6 : St) (v5 : Int32) : Option (Int32 × St) :=
chkI v5 16 (
bnd (su s6 32 (upd (s6.1 32) v5.toNatClampNeg (s6.1 6 0))) fun s7 =>
(mX8_look s7).bind fun ⟨r8, s10⟩ =>
chkI v5 16 (
bnd (su s10 33 (upd (s10.1 33) v5.toNatClampNeg r8)) fun s11 =>
chkI v5 16 (
bnd (su s11 34 (upd (s11.1 34) v5.toNatClampNeg 0)) fun s12 =>
bnd (su s12 10 (fun _ => (s12.1 10 0) + 1)) fun s13 =>
(mX8_clear s13).bind fun ⟨r14, s16⟩ =>
some (v5, s16))))
def mX8_end_118 (kh84 : St → Int32 → Int32 → Option (Int32 × St)) (s21 : St) (v17 : Int32) (v18 : Int32) (v19 : Int32) (v20 : Int32) : Option (Int32 × St) :=
chkI v20 32 (
bnd (su s21 31 (upd (s21.1 31) v20.toNatClampNeg v19)) fun s22 =>
bnd (v18 + 1) fun x23 =>
kh84 s22 v17 x23)
def bX8_end_84 (kh84 : St → Int32 → Int32 → Option (Int32 × St)) (s26 : St) (v24 : Int32) (v25 : Int32) : Option (Int32 × St) :=
if 2 ≤ v25 then (
mX8_end_125 s26 v24)
else (
chkI v24 16 (
if (s26.1 30 v24.toNatClampNeg) ≤ v25 then (
mX8_end_118 kh84 s26 v24 v25 (-1) ((2 * v24) + v25))
else (
chkI v25 60 (
mX8_end_118 kh84 s26 v24 v25 (s26.1 21 v25.toNatClampNeg) ((2 * v24) + v25)))))
abbrev mX8_end_84 (n : Nat) : St → Int32 → Int32 → Option (Int32 × St) := fx (fun _ _ _ => none) (bX8_end_84) n
def mX8_end (σ : St) : Option (Int32 × St) :=
bnd (su σ 0 (fun _ => 0)) fun s29 =>
if (s29.1 6 0) = 0 then (
mX8_end_44 s29)
else (
if (s29.1 8 0) = (-1) then (
chkI ((s29.1 6 0) - 1) 60 (
if (s29.1 24 ((s29.1 6 0) - 1).toNatClampNeg) = (-1) then (
if (s29.1 10 0) = 16 then (
mX8_end_44 s29)
else (
bnd (s29.1 10 0) fun x34 =>
chkI ((s29.1 6 0) - 1) 60 (
chkI x34 16 (
bnd (su s29 29 (upd (s29.1 29) x34.toNatClampNeg (s29.1 21 ((s29.1 6 0) - 1).toNatClampNeg))) fun s35 =>
(mX8_premisesNow s35).bind fun r36 =>
chkI x34 16 (
bnd (su s35 30 (upd (s35.1 30) x34.toNatClampNeg r36)) fun s38 =>
mX8_end_84 NF s38 x34 0)))))
else (
mX8_end_44 s29)))
else (
mX8_end_44 s29))
def mX8_theoremTold (σ : St) (p1 : Int32) (p2 : Int32) : Option (Int32 × St) :=
bnd (su σ 42 (fun _ => 0)) fun s1 =>
chkI p1 16 (
chkI 0 7 (
bnd (su s1 42 (upd (s1.1 42) (0 : Int32).toNatClampNeg (s1.1 29 p1.toNatClampNeg))) fun s2 =>
chkI p1 16 (
chkI 1 7 (
bnd (su s2 42 (upd (s2.1 42) (1 : Int32).toNatClampNeg (s2.1 30 p1.toNatClampNeg))) fun s3 =>
chkI (2 * p1) 32 (
chkI 2 7 (
bnd (su s3 42 (upd (s3.1 42) (2 : Int32).toNatClampNeg (s3.1 31 (2 * p1).toNatClampNeg))) fun s4 =>
chkI ((2 * p1) + 1) 32 (
chkI 3 7 (
bnd (su s4 42 (upd (s4.1 42) (3 : Int32).toNatClampNeg (s4.1 31 ((2 * p1) + 1).toNatClampNeg))) fun s5 =>
chkI p1 16 (
chkI 4 7 (
bnd (su s5 42 (upd (s5.1 42) (4 : Int32).toNatClampNeg (s5.1 32 p1.toNatClampNeg))) fun s6 =>
chkI p1 16 (
chkI 5 7 (
bnd (su s6 42 (upd (s6.1 42) (5 : Int32).toNatClampNeg (s6.1 33 p1.toNatClampNeg))) fun s7 =>
chkI p1 16 (
chkI 6 7 (
bnd (su s7 42 (upd (s7.1 42) (6 : Int32).toNatClampNeg (s7.1 34 p1.toNatClampNeg))) fun s8 =>
chkI p2 7 (
some (s8.1 42 p2.toNatClampNeg, s8))))))))))))))))
def mX8_isTheorem (σ : St) (p1 : Int32) : Option Int32 :=
(mX8_isIn σ p1 0 ((σ.1 10 0) - 1)).bind fun r1 =>
chkZ r1 (some r1)
def mX8_theorem_32 (s1 : St) : Option (Int32 × St) :=
(mX8_no s1 1).bind fun ⟨r2, s4⟩ =>
some (r2, s4)
def mX8_theorem (σ : St) (p1 : Int32) (p2 : Int32) : Option (Int32 × St) :=
bnd (su σ 0 (fun _ => 0)) fun s5 =>
(mX8_isTheorem s5 p1).bind fun r6 =>
if r6 = 0 then (
mX8_theorem_32 s5)
else (
(mX8_isIn s5 p2 0 6).bind fun r9 =>
if r9 = 0 then (
mX8_theorem_32 s5)
else (
(mX8_theoremTold s5 p1 p2).bind fun ⟨r12, s14⟩ =>
some (r12, s14)))
def mX8_instance_31 (s1 : St) : Option (Int32 × St) :=
(mX8_no s1 1).bind fun ⟨r2, s4⟩ =>
some (r2, s4)
def mX8_instance (σ : St) (p1 : Int32) (p2 : Int32) (p3 : Int32) : Option (Int32 × St) :=
bnd (su σ 0 (fun _ => 0)) fun s5 =>
(mX8_isTheorem s5 p1).bind fun r6 =>
if r6 = 0 then (
mX8_instance_31 s5)
else (
(mX8_isFormula s5 p2).bind fun r9 =>
if r9 = 0 then (
mX8_instance_31 s5)
else (
(mX8_isIn s5 p3 0 7).bind fun r12 =>
if r12 = 0 then (
mX8_instance_31 s5)
else (
(mX8_clearStands s5).bind fun s16 =>
chkI p1 16 (
(mX8_becomes s16 (s16.1 29 p1.toNatClampNeg) p2).bind fun ⟨r17, s19⟩ =>
if r17 = 0 then (
some ((-1), s19))
else (
chkI p1 16 (
chkI (s19.1 29 p1.toNatClampNeg) 240 (
if (((s19.1 18 (s19.1 29 p1.toNatClampNeg).toNatClampNeg) >>> (p3 &&& 31)) &&& 1) = 0 then (
some ((-1), s19))
else (
(mX8_find s19 0 p3 (-1)).bind fun r22 =>
chkI r22 240 (
some (s19.1 39 r22.toNatClampNeg, s19))))))))))
def mX8_thrift_43 (s3 : St) (v1 : Int32) (v2 : Int32) : Option (UInt64 × St) :=
if (s3.1 10 0) = 0 then (
some (FP.dconst1, s3))
else (
chkN (FP.ddiv (FP.i2d v2) (FP.i2d v1)) (
some (FP.ddiv (FP.i2d v2) (FP.i2d v1), s3)))
def bX8_thrift_11 (kh11 : St → Int32 → Int32 → Int32 → Option (UInt64 × St)) (s8 : St) (v5 : Int32) (v6 : Int32) (v7 : Int32) : Option (UInt64 × St) :=
if (s8.1 10 0) ≤ v7 then (
mX8_thrift_43 s8 v5 v6)
else (
chkI v7 16 (
bnd (v5 + (s8.1 32 v7.toNatClampNeg)) fun x10 =>
chkI v7 16 (
bnd (v6 + (s8.1 33 v7.toNatClampNeg)) fun x11 =>
bnd (v7 + 1) fun x12 =>
kh11 s8 x10 x11 x12)))
abbrev mX8_thrift_11 (n : Nat) : St → Int32 → Int32 → Int32 → Option (UInt64 × St) := fx (fun _ _ _ _ => none) (bX8_thrift_11) n
def mX8_thrift (σ : St) : Option (UInt64 × St) :=
bnd (su σ 0 (fun _ => 0)) fun s13 =>
mX8_thrift_11 NF s13 0 0 0
def bX8_digest_232 (kh232 : St → Int64 → Int32 → Option (Int64 × St)) (s3 : St) (v1 : Int64) (v2 : Int32) : Option (Int64 × St) :=
if (s3.1 4 0) ≤ v2 then (
some (v1, s3))
else (
chkI v2 400 (
bnd ((v1 * 31) + ((s3.1 14 v2.toNatClampNeg).toInt64)) fun x5 =>
bnd (v2 + 1) fun x6 =>
kh232 s3 x5 x6))
abbrev mX8_digest_232 (n : Nat) : St → Int64 → Int32 → Option (Int64 × St) := fx (fun _ _ _ => none) (bX8_digest_232) n
def mX8_digest_230 (s8 : St) (v7 : Int64) : Option (Int64 × St) :=
mX8_digest_232 NF s8 v7 0
def mX8_digest_224 (kh185 : St → Int64 → Int32 → Option (Int64 × St)) (s11 : St) (v9 : Int64) (v10 : Int32) : Option (Int64 × St) :=
bnd (v10 + 1) fun x12 =>
kh185 s11 v9 x12
def bX8_digest_196 (kh185 : St → Int64 → Int32 → Option (Int64 × St)) (kh196 : St → Int64 → Int32 → Int32 → Option (Int64 × St)) (s16 : St) (v13 : Int64) (v14 : Int32) (v15 : Int32) : Option (Int64 × St) :=
if 7 ≤ v15 then (
mX8_digest_224 kh185 s16 v13 v14)
else (
(mX8_theoremTold s16 v14 v15).bind fun ⟨r18, s20⟩ =>
bnd ((v13 * 31) + r18.toInt64) fun x21 =>
bnd (v15 + 1) fun x22 =>
kh196 s20 x21 v14 x22)
abbrev mX8_digest_196 (kh185 : St → Int64 → Int32 → Option (Int64 × St)) (n : Nat) : St → Int64 → Int32 → Int32 → Option (Int64 × St) := fx (fun _ _ _ _ => none) (bX8_digest_196 kh185) n
def bX8_digest_185 (kh185 : St → Int64 → Int32 → Option (Int64 × St)) (s25 : St) (v23 : Int64) (v24 : Int32) : Option (Int64 × St) :=
if (s25.1 10 0) ≤ v24 then (
mX8_digest_230 s25 v23)
else (
mX8_digest_196 kh185 8 s25 v23 v24 0)
abbrev mX8_digest_185 (n : Nat) : St → Int64 → Int32 → Option (Int64 × St) := fx (fun _ _ _ => none) (bX8_digest_185) n
def mX8_digest_183 (s28 : St) (v27 : Int64) : Option (Int64 × St) :=
mX8_digest_185 17 s28 v27 0
def mX8_digest_177 (kh139 : St → Int64 → Int32 → Option (Int64 × St)) (s31 : St) (v29 : Int64) (v30 : Int32) : Option (Int64 × St) :=
bnd (v30 + 1) fun x32 =>
kh139 s31 v29 x32
def bX8_digest_150 (kh139 : St → Int64 → Int32 → Option (Int64 × St)) (kh150 : St → Int64 → Int32 → Int32 → Option (Int64 × St)) (s36 : St) (v33 : Int64) (v34 : Int32) (v35 : Int32) : Option (Int64 × St) :=
if 4 ≤ v35 then (
mX8_digest_177 kh139 s36 v33 v34)
else (
(mX8_boxTold s36 v34 v35).bind fun r38 =>
bnd ((v33 * 31) + r38.toInt64) fun x40 =>
bnd (v35 + 1) fun x41 =>
kh150 s36 x40 v34 x41)
abbrev mX8_digest_150 (kh139 : St → Int64 → Int32 → Option (Int64 × St)) (n : Nat) : St → Int64 → Int32 → Int32 → Option (Int64 × St) := fx (fun _ _ _ _ => none) (bX8_digest_150 kh139) n
def bX8_digest_139 (kh139 : St → Int64 → Int32 → Option (Int64 × St)) (s44 : St) (v42 : Int64) (v43 : Int32) : Option (Int64 × St) :=
if (s44.1 7 0) ≤ v43 then (
mX8_digest_183 s44 v42)
else (
mX8_digest_150 kh139 NF s44 v42 v43 0)
abbrev mX8_digest_139 (n : Nat) : St → Int64 → Int32 → Option (Int64 × St) := fx (fun _ _ _ => none) (bX8_digest_139) n
def mX8_digest_137 (s47 : St) (v46 : Int64) : Option (Int64 × St) :=
mX8_digest_139 NF s47 v46 0
def mX8_digest_131 (kh92 : St → Int64 → Int32 → Option (Int64 × St)) (s50 : St) (v48 : Int64) (v49 : Int32) : Option (Int64 × St) :=
bnd (v49 + 1) fun x51 =>
kh92 s50 v48 x51
def bX8_digest_103 (kh92 : St → Int64 → Int32 → Option (Int64 × St)) (kh103 : St → Int64 → Int32 → Int32 → Option (Int64 × St)) (s55 : St) (v52 : Int64) (v53 : Int32) (v54 : Int32) : Option (Int64 × St) :=
if 8 ≤ v54 then (
mX8_digest_131 kh92 s55 v52 v53)
else (
(mX8_lineTold s55 v53 v54).bind fun ⟨r57, s59⟩ =>
bnd ((v52 * 31) + r57.toInt64) fun x60 =>
bnd (v54 + 1) fun x61 =>
kh103 s59 x60 v53 x61)
abbrev mX8_digest_103 (kh92 : St → Int64 → Int32 → Option (Int64 × St)) (n : Nat) : St → Int64 → Int32 → Int32 → Option (Int64 × St) := fx (fun _ _ _ _ => none) (bX8_digest_103 kh92) n
def bX8_digest_92 (kh92 : St → Int64 → Int32 → Option (Int64 × St)) (s64 : St) (v62 : Int64) (v63 : Int32) : Option (Int64 × St) :=
if (s64.1 6 0) ≤ v63 then (
mX8_digest_137 s64 v62)
else (
mX8_digest_103 kh92 NF s64 v62 v63 0)
abbrev mX8_digest_92 (n : Nat) : St → Int64 → Int32 → Option (Int64 × St) := fx (fun _ _ _ => none) (bX8_digest_92) n
def mX8_digest_90 (s67 : St) (v66 : Int64) : Option (Int64 × St) :=
mX8_digest_92 NF s67 v66 0
def bX8_digest_38 (kh38 : St → Int64 → Int32 → Option (Int64 × St)) (s70 : St) (v68 : Int64) (v69 : Int32) : Option (Int64 × St) :=
if (s70.1 5 0) ≤ v69 then (
mX8_digest_90 s70 v68)
else (
chkI v69 240 (
chkI v69 240 (
chkI v69 240 (
bnd ((((((v68 * 31) + ((s70.1 15 v69.toNatClampNeg).toInt64)) * 31) + ((s70.1 16 v69.toNatClampNeg).toInt64)) * 31) + ((s70.1 17 v69.toNatClampNeg).toInt64)) fun x72 =>
bnd (v69 + 1) fun x73 =>
kh38 s70 x72 x73))))
abbrev mX8_digest_38 (n : Nat) : St → Int64 → Int32 → Option (Int64 × St) := fx (fun _ _ _ => none) (bX8_digest_38) n
def mX8_digest_36 (s75 : St) (v74 : Int64) : Option (Int64 × St) :=
mX8_digest_38 NF s75 v74 0
def bX8_digest_11 (kh11 : St → Int64 → Int32 → Option (Int64 × St)) (s78 : St) (v76 : Int64) (v77 : Int32) : Option (Int64 × St) :=
if 9 ≤ v77 then (
mX8_digest_36 s78 v76)
else (
(mX8_counted s78 v77).bind fun ⟨r80, s82⟩ =>
bnd ((v76 * 31) + r80.toInt64) fun x83 =>
bnd (v77 + 1) fun x84 =>
kh11 s82 x83 x84)
abbrev mX8_digest_11 (n : Nat) : St → Int64 → Int32 → Option (Int64 × St) := fx (fun _ _ _ => none) (bX8_digest_11) n
def mX8_digest (σ : St) : Option (Int64 × St) :=
bnd (su σ 0 (fun _ => 0)) fun s85 =>
mX8_digest_11 10 s85 419 0
def mX7_feed (σ : St) (p1 : Int32) (p2 : Int32) (p3 : Int32) (p4 : Int32) (p5 : Int32) : Option (Int32 × St) :=
(mX5_size σ).bind fun r1 =>
if (r1 + 20) ≤ 400 then (
(mX5_append σ p1).bind fun s5 =>
(mX5_append s5 p2).bind fun s7 =>
(mX5_append s7 p3).bind fun s9 =>
(mX5_append s9 p4).bind fun s11 =>
(mX5_append s11 p5).bind fun s13 =>
(mX5_size s13).bind fun r14 =>
some (r14, s13))
else (
none)
def tX7_feed (σ : St) (p1 : Int32) (p2 : Int32) (p3 : Int32) (p4 : Int32) (p5 : Int32) : Option (Nat × St) :=
(mX5_size σ).bind fun r1 =>
if (r1 + 20) ≤ 400 then (
none)
else (
some (1, σ))
def mX7_trim (σ : St) (p1 : Int32) : Option (Int32 × St) :=
if p1 < 0 then (
none)
else (
(mX5_size σ).bind fun r2 =>
if p1 ≤ r2 then (
(mX5_shorten σ p1).bind fun s6 =>
some (p1, s6))
else (
none))
def tX7_trim (σ : St) (p1 : Int32) : Option (Nat × St) :=
if p1 < 0 then (
some (2, σ))
else (
(mX5_size σ).bind fun r2 =>
if p1 ≤ r2 then (
none)
else (
some (2, σ)))
def mX7_read (σ : St) : Option (Int32 × St) :=
(mX5_parse σ).bind fun ⟨r1, s3⟩ =>
some (r1, s3)
def mX7_errorAt (σ : St) : Option Int32 :=
(mX5_error σ).bind fun r1 =>
some r1
def tX7_make (σ : St) (p1 : Int32) (p2 : Int32) (p3 : Int32) : Option (Nat × St) :=
if p1 < 0 then (
some (2, σ))
else (
if p1 ≤ 5 then (
if p1 = 0 then (
if p2 < 0 then (
some (2, σ))
else (
if p2 < 8 then (
(mX1_hasParts σ p1 p2 p3).bind fun r13 =>
if r13 = 0 then (
some (3, σ))
else (
(mX1_number σ p1 p2 p3).bind fun ⟨r16, s18⟩ =>
if 0 ≤ r16 then (
none)
else (
some (1, s18))))
else (
some (2, σ))))
else (
(mX1_hasParts σ p1 p2 p3).bind fun r4 =>
if r4 = 0 then (
some (3, σ))
else (
(mX1_number σ p1 p2 p3).bind fun ⟨r7, s9⟩ =>
if 0 ≤ r7 then (
none)
else (
some (1, s9)))))
else (
some (2, σ)))
def tX7_formula (σ : St) (p1 : Int32) (p2 : Int32) : Option Nat :=
(mX1_isKnown σ p1).bind fun r1 =>
if r1 = 0 then (
some 3)
else (
if p2 < 0 then (
some 3)
else (
if p2 ≤ 5 then (
none)
else (
some 3)))
def mX7_isTrue (σ : St) (p1 : Int32) (p2 : Int32) : Option Int32 :=
(mX1_isKnown σ p1).bind fun r1 =>
if r1 = 0 then (
none)
else (
if p2 < 0 then (
none)
else (
if p2 < 256 then (
(mX1_truth σ p1 (p2 >>> (6 &&& 31))).bind fun r6 =>
if (lg_cmp (((r6.toUInt64 >>> ((p2 &&& 63).toInt64.toUInt64 &&& Int64.toUInt64 63)).toInt64) &&& 1) 0) = 0 then (
some 0)
else (
some 1))
else (
none)))
def tX7_isTrue (σ : St) (p1 : Int32) (p2 : Int32) : Option Nat :=
(mX1_isKnown σ p1).bind fun r1 =>
if r1 = 0 then (
some 3)
else (
if p2 < 0 then (
some 2)
else (
if p2 < 256 then (
none)
else (
some 2)))
def mX7_write (σ : St) (p1 : Int32) : Option (Int32 × St) :=
(mX1_isKnown σ p1).bind fun r1 =>
if r1 = 0 then (
none)
else (
(mX1_width σ p1).bind fun r4 =>
if r4 ≤ 400 then (
(mX2_put σ p1).bind fun s8 =>
(mX2_size s8).bind fun r9 =>
some (r9, s8))
else (
none))
def tX7_write (σ : St) (p1 : Int32) : Option (Nat × St) :=
(mX1_isKnown σ p1).bind fun r1 =>
if r1 = 0 then (
some (3, σ))
else (
(mX1_width σ p1).bind fun r4 =>
if r4 ≤ 400 then (
none)
else (
some (1, σ)))
def mX7_byteAt (σ : St) (p1 : Int32) : Option Int32 :=
if p1 < 0 then (
none)
else (
(mX2_size σ).bind fun r2 =>
if p1 < r2 then (
(mX2_at σ p1).bind fun r5 =>
some r5)
else (
none))
def tX7_byteAt (σ : St) (p1 : Int32) : Option Nat :=
if p1 < 0 then (
some 3)
else (
(mX2_size σ).bind fun r2 =>
if p1 < r2 then (
none)
else (
some 3))
def tX7_premise (σ : St) (p1 : Int32) : Option (Nat × St) :=
(mX1_isKnown σ p1).bind fun r1 =>
if r1 = 0 then (
some (3, σ))
else (
(mX3_premiseCount σ).bind fun r4 =>
(mX3_lineCount σ).bind fun r6 =>
if r4 < r6 then (
some (1, σ))
else (
if r4 < 2 then (
none)
else (
some (1, σ))))
def tX7_assume (σ : St) (p1 : Int32) : Option (Nat × St) :=
(mX1_isKnown σ p1).bind fun r1 =>
if r1 = 0 then (
some (3, σ))
else (
(mX3_openCount σ).bind fun r4 =>
if 6 ≤ r4 then (
some (1, σ))
else (
(mX3_lineCount σ).bind fun r7 =>
if r7 < 60 then (
none)
else (
some (1, σ))))
def tX7_close (σ : St) : Option (Nat × St) :=
(mX3_openCount σ).bind fun r1 =>
if 0 < r1 then (
none)
else (
some (1, σ))
def tX7_step (σ : St) (p1 : Int32) (p2 : Int32) (p3 : Int32) (p4 : Int32) (p5 : Int32) : Option (Nat × St) :=
if p1 < 0 then (
some (2, σ))
else (
if p1 ≤ 13 then (
(mX1_isKnown σ p2).bind fun r3 =>
if r3 = 0 then (
some (3, σ))
else (
(mX3_lineCount σ).bind fun r6 =>
if r6 < 60 then (
none)
else (
some (1, σ))))
else (
some (2, σ)))
def tX7_undo (σ : St) : Option (Nat × St) :=
(mX3_wasBegun σ).bind fun r1 =>
if r1 = 0 then (
some (1, σ))
else (
none)
def tX7_count (σ : St) (p1 : Int32) : Option (Nat × St) :=
if p1 = 0 then (
none)
else (
if p1 = 1 then (
none)
else (
if p1 = 2 then (
none)
else (
if p1 = 3 then (
none)
else (
if p1 = 4 then (
none)
else (
if p1 = 5 then (
none)
else (
if p1 = 6 then (
none)
else (
if p1 = 7 then (
none)
else (
if p1 = 8 then (
none)
else (
some (3, σ))))))))))
def tX7_line (σ : St) (p1 : Int32) (p2 : Int32) : Option (Nat × St) :=
if p1 < 0 then (
some (3, σ))
else (
(mX3_lineCount σ).bind fun r2 =>
if r2 ≤ p1 then (
some (3, σ))
else (
if p2 < 0 then (
some (3, σ))
else (
if p2 ≤ 7 then (
none)
else (
some (3, σ)))))
def tX7_box (σ : St) (p1 : Int32) (p2 : Int32) : Option Nat :=
if p1 < 0 then (
some 3)
else (
(mX3_boxCount σ).bind fun r2 =>
if r2 ≤ p1 then (
some 3)
else (
if p2 < 0 then (
some 3)
else (
if p2 ≤ 3 then (
none)
else (
some 3))))
def tX7_fails (σ : St) (p1 : Int32) : Option Nat :=
if p1 < 0 then (
some 3)
else (
(mX3_lineCount σ).bind fun r2 =>
if p1 < r2 then (
none)
else (
some 3))
def tX7_hint (σ : St) (p1 : Int32) (p2 : Int32) : Option (Nat × St) :=
(mX1_isKnown σ p1).bind fun r1 =>
if r1 = 0 then (
some (3, σ))
else (
if p2 < 0 then (
some (3, σ))
else (
if p2 ≤ 3 then (
none)
else (
some (3, σ))))
def tX7_end (σ : St) : Option (Nat × St) :=
(mX3_lineCount σ).bind fun r1 =>
bnd (r1 - 1) fun x3 =>
if x3 < 0 then (
some (1, σ))
else (
(mX3_openCount σ).bind fun r5 =>
if 0 < r5 then (
some (1, σ))
else (
(mX3_boxOf σ x3).bind fun r8 =>
if r8 < 0 then (
(mX6_known σ).bind fun r11 =>
if r11 < 16 then (
none)
else (
some (1, σ)))
else (
some (1, σ))))
def tX7_theorem (σ : St) (p1 : Int32) (p2 : Int32) : Option Nat :=
(mX6_isKnown σ p1).bind fun r1 =>
if r1 = 0 then (
some 3)
else (
if p2 < 0 then (
some 3)
else (
if p2 ≤ 6 then (
none)
else (
some 3)))
def tX7_instance (σ : St) (p1 : Int32) (p2 : Int32) (p3 : Int32) : Option (Nat × St) :=
(mX6_isKnown σ p1).bind fun r1 =>
if r1 = 0 then (
some (3, σ))
else (
(mX1_isKnown σ p2).bind fun r4 =>
if r4 = 0 then (
some (3, σ))
else (
if p3 < 0 then (
some (3, σ))
else (
if p3 < 8 then (
none)
else (
some (3, σ)))))
