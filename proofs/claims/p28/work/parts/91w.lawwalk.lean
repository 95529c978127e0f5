set_option maxHeartbeats 4000000 in
set_option maxRecDepth 100000 in
theorem law_body {p : Program} {l : Launch} {e : Env} {s : State} {m : MethodId} {below : List Frame} {meth : Method} {c : Code} {D : va_G} {y : Nat → ClassId} {a t : Nat → Nat} {z L : Nat} {xs : Nat → Int32} (hx : p.tables.exec = Jvm.exec) (hb : c.code = code) (hml : c.maxLocals = 20) (hown : s.vm.findClass RL = some m.cls) (hts : ∀ w ∈ (Cond.initialized RX7 :: AW), w.before #[Value.ref z] s = true) (hlocks : meth.locks = false) (hret : meth.sig.returnType = ret)
    (hX : va_X z L xs s s.heap) (hzl : z < s.heap.size) (hzA : ¬ AC a 37 s.heap.size z) (hA0 : ∀ q, AC a 37 s.heap.size q → s.heap.size ≤ q) (hK : va_K D vwCl (tysA y) s) (hF : SF t (AC a 37 s.heap.size) s) (hI : AI a 37) (σ : St) (H : Heap) (locs : List Loc) (ls : Array Slot) (hP : va_P D vwCl (wC y a σ) H) (hS : va_S (AC a 37 s.heap.size) s.heap H locs) (hl : lv_has ls 20 [(0, .ref z), (1, .ref (a 0))]) (hm : mL_law xs L σ = some ()) : W p l e room_1 s m #[Value.ref z] below meth c H locs 37 5296 (lw_Z below #[Value.ref z] s) (F0 m 8 ls []) := by
  have L_890 : ∀ (s3 : St) (v1 : Int64) (v2 : Int32) (H : Heap) (locs : List Loc) (ls : Array Slot), va_P D vwCl (wC y a s3) H → va_S (AC a 37 s.heap.size) s.heap H locs → lv_has ls 20 [(1, .ref (a 0)), (3, .long v1), (5, .int v2)] → mL_law_890 xs L s3 v1 v2 = some () → W p l e room_1 s m #[Value.ref z] below meth c H locs 37 5296 (lw_Z below #[Value.ref z] s) (F0 m 890 ls []) := by
    intro s3 v1 v2 H locs ls hP hS hl hm
    unfold mL_law_890 at hm
    refine lv_aload_n hx hb dL_law_890 rfl (lv_at hl 0 rfl) ?_
    refine lv_bipush (v := 7) hx hb dL_law_891 (by decide) ?_
    obtain ⟨⟨r4, s6⟩, h5, hm⟩ := ok_bind hm
    refine calV_i (As := [.int 7]) (rest := []) ⟨hx, hb, hml, hown, hts⟩ (kX7_count l D y a t hI _ s3 s6 7 r4 h5) (cwV 1 hts (gAV aM_L_45 aI_X7_count aS_X7_count aN_X7 aC_X7_count) rfl rfl rfl eX7_count ⟨Nat.le_of_ble_eq_true rfl, Nat.le_of_ble_eq_true rfl⟩) (preV_W (ci := 7) (q := (RX7, TX7, 6)) hK hP hF hS rfl (wC_0 y a s3)) rfl hl.1 rfl (Nat.le_of_ble_eq_true rfl) dL_law_893 ⟨Nat.le_of_ble_eq_true rfl, Nat.le_of_ble_eq_true rfl⟩ hS (AC_le hS.1) (fun H locs hP hS hk1 => ?_)
    refine lv_iload hx hb dL_law_896 (lv_at hl 2 rfl) ?_
    refine lv_icmp_ne (tgt := 944) hx hb dL_law_898 (by decide) (fun c7 => ?_) (fun c7 => ?_)
    · have hm := (if_neg c7).symm.trans hm
      refine lv_iconst (v := 0) hx hb dL_law_944 (by decide) ?_
      cases hm
    · have hm := (if_pos c7).symm.trans hm
      refine lv_aload_n hx hb dL_law_901 rfl (lv_at hl 0 rfl) ?_
      obtain ⟨r8, h9, hm⟩ := ok_bind hm
      refine calV_d (As := []) (rest := []) ⟨hx, hb, hml, hown, hts⟩ (kX7_thrift l D y a t hI _ s6 r8 h9) (cwV 0 hts (gAV aM_L_90 aI_X7_thrift aS_X7_thrift aN_X7 aC_X7_thrift) rfl rfl rfl eX7_thrift ⟨Nat.le_of_ble_eq_true rfl, Nat.le_of_ble_eq_true rfl⟩) (preV_W (ci := 7) (q := (RX7, TX7, 6)) hK hP hF hS rfl (wC_0 y a s6)) rfl hl.1 rfl (Nat.le_of_ble_eq_true rfl) dL_law_902 ⟨Nat.le_of_ble_eq_true rfl, Nat.le_of_ble_eq_true rfl⟩ hS (AC_le hS.1) (fun H locs hP hS hk1 => ?_)
      refine lv_dconst0 hx hb dL_law_905 ?_
      refine lv_dcmp hx hb dL_law_906 ?_
      refine lv_if_le (tgt := 944) hx hb dL_law_907 (by decide) (fun c10 => ?_) (fun c10 => ?_)
      · have hm := (if_pos c10).symm.trans hm
        refine lv_iconst (v := 0) hx hb dL_law_944 (by decide) ?_
        cases hm
      · have hm := (if_neg c10).symm.trans hm
        refine lv_aload_n hx hb dL_law_910 rfl (lv_at hl 0 rfl) ?_
        obtain ⟨r11, h12, hm⟩ := ok_bind hm
        refine calV_d (As := []) (rest := []) ⟨hx, hb, hml, hown, hts⟩ (kX7_thrift l D y a t hI _ s6 r11 h12) (cwV 0 hts (gAV aM_L_90 aI_X7_thrift aS_X7_thrift aN_X7 aC_X7_thrift) rfl rfl rfl eX7_thrift ⟨Nat.le_of_ble_eq_true rfl, Nat.le_of_ble_eq_true rfl⟩) (preV_W (ci := 7) (q := (RX7, TX7, 6)) hK hP hF hS rfl (wC_0 y a s6)) rfl hl.1 rfl (Nat.le_of_ble_eq_true rfl) dL_law_911 ⟨Nat.le_of_ble_eq_true rfl, Nat.le_of_ble_eq_true rfl⟩ hS (AC_le hS.1) (fun H locs hP hS hk1 => ?_)
        refine lv_dconst1 hx hb dL_law_914 ?_
        refine lv_dcmp hx hb dL_law_915 ?_
        refine lv_if_gt (tgt := 944) hx hb dL_law_916 (by decide) (fun c13 => ?_) (fun c13 => ?_)
        · have hm := (if_pos c13).symm.trans hm
          refine lv_iconst (v := 0) hx hb dL_law_944 (by decide) ?_
          cases hm
        · have hm := (if_neg c13).symm.trans hm
          refine lv_iload hx hb dL_law_919 (lv_at hl 2 rfl) ?_
          refine lv_if_gt (tgt := 940) hx hb dL_law_921 (by decide) (fun c14 => ?_) (fun c14 => ?_)
          · have hm := (if_pos c14).symm.trans hm
            refine lv_iconst (v := 1) hx hb dL_law_940 (by decide) ?_
            refine lv_goto (tgt := 945) hx hb dL_law_941 (by decide) ?_
            refine va_forget (fun q hq => hA0 q.base (hS.2.2 q hq)) ?_
            refine W.widen (k := 146) (n := 6122) (Nat.le_of_ble_eq_true rfl) (Nat.le_of_ble_eq_true rfl) ?_
            refine W.base ?_
            exact lw_ret (Drawn.sameBut.refl s.drawn lw_cs) hx hb hret hlocks dL_law_945
          · have hm := (if_neg c14).symm.trans hm
            refine lv_aload_n hx hb dL_law_924 rfl (lv_at hl 0 rfl) ?_
            obtain ⟨⟨r15, s17⟩, h16, hm⟩ := ok_bind hm
            refine calV_i (As := []) (rest := []) ⟨hx, hb, hml, hown, hts⟩ (kX7_begin l D y a t hI _ s6 s17 r15 h16) (cwV 0 hts (gAV aM_L_94 aI_X7_begin aS_X7_begin aN_X7 aC_X7_begin) rfl rfl rfl eX7_begin ⟨Nat.le_of_ble_eq_true rfl, Nat.le_of_ble_eq_true rfl⟩) (preV_W (ci := 7) (q := (RX7, TX7, 6)) hK hP hF hS rfl (wC_0 y a s6)) rfl hl.1 rfl (Nat.le_of_ble_eq_true rfl) dL_law_925 ⟨Nat.le_of_ble_eq_true rfl, Nat.le_of_ble_eq_true rfl⟩ hS (AC_le hS.1) (fun H locs hP hS hk1 => ?_)
            refine lv_if_lt (tgt := 944) hx hb dL_law_928 (by decide) (fun c18 => ?_) (fun c18 => ?_)
            · have hm := (if_pos c18).symm.trans hm
              refine lv_iconst (v := 0) hx hb dL_law_944 (by decide) ?_
              cases hm
            · have hm := (if_neg c18).symm.trans hm
              refine lv_aload_n hx hb dL_law_931 rfl (lv_at hl 0 rfl) ?_
              obtain ⟨⟨r19, s21⟩, h20, hm⟩ := ok_bind hm
              refine calV_l (As := []) (rest := []) ⟨hx, hb, hml, hown, hts⟩ (kX7_digest l D y a t hI _ s17 s21 r19 h20) (cwV 0 hts (gAV aM_L_49 aI_X7_digest aS_X7_digest aN_X7 aC_X7_digest) rfl rfl rfl eX7_digest ⟨Nat.le_of_ble_eq_true rfl, Nat.le_of_ble_eq_true rfl⟩) (preV_W (ci := 7) (q := (RX7, TX7, 6)) hK hP hF hS rfl (wC_0 y a s17)) rfl hl.1 rfl (Nat.le_of_ble_eq_true rfl) dL_law_932 ⟨Nat.le_of_ble_eq_true rfl, Nat.le_of_ble_eq_true rfl⟩ hS (AC_le hS.1) (fun H locs hP hS hk1 => ?_)
              refine lv_lload_n hx hb dL_law_935 rfl (lv_at hl 1 rfl) ?_
              refine W.lcmp hx hb dL_law_936 ?_
              refine lv_if_ne (tgt := 944) hx hb dL_law_937 (by decide) (fun c22 => ?_) (fun c22 => ?_)
              · have hm := (if_neg c22).symm.trans hm
                refine lv_iconst (v := 0) hx hb dL_law_944 (by decide) ?_
                cases hm
              · have hm := (if_pos c22).symm.trans hm
                refine lv_iconst (v := 1) hx hb dL_law_940 (by decide) ?_
                refine lv_goto (tgt := 945) hx hb dL_law_941 (by decide) ?_
                refine va_forget (fun q hq => hA0 q.base (hS.2.2 q hq)) ?_
                refine W.widen (k := 146) (n := 6122) (Nat.le_of_ble_eq_true rfl) (Nat.le_of_ble_eq_true rfl) ?_
                refine W.base ?_
                exact lw_ret (Drawn.sameBut.refl s.drawn lw_cs) hx hb hret hlocks dL_law_945
  have L_127 : ∀ (n : Nat) (s385 : St) (v381 : Int32) (v382 : Int64) (v383 : Int32) (v384 : Int32) (H : Heap) (locs : List Loc) (ls : Array Slot), va_P D vwCl (wC y a s385) H → va_S (AC a 37 s.heap.size) s.heap H locs → lv_has ls 20 [(0, .ref z), (1, .ref (a 0)), (2, .int v381), (3, .long v382), (5, .int v383), (6, .int v384)] → mL_law_127 xs L n s385 v381 v382 v383 v384 = some () → W p l e room_1 s m #[Value.ref z] below meth c H locs 37 5296 (lw_Z below #[Value.ref z] s) (F0 m 127 ls []) := by
    intro n
    induction n with
    | zero =>
      intro s385 v381 v382 v383 v384 H locs ls hP hS hl hm
      exact absurd (show (none : Option Unit) = some () from hm) (by intro h; cases h)
    | succ n ih127 =>
      obtain ⟨kh127, ekh127⟩ : ∃ z, z = mL_law_127 xs L n := ⟨_, rfl⟩
      have ih127 : ∀ (s385 : St) (v381 : Int32) (v382 : Int64) (v383 : Int32) (v384 : Int32) (H : Heap) (locs : List Loc) (ls : Array Slot), va_P D vwCl (wC y a s385) H → va_S (AC a 37 s.heap.size) s.heap H locs → lv_has ls 20 [(0, .ref z), (1, .ref (a 0)), (2, .int v381), (3, .long v382), (5, .int v383), (6, .int v384)] → kh127 s385 v381 v382 v383 v384 = some () → W p l e room_1 s m #[Value.ref z] below meth c H locs 37 5296 (lw_Z below #[Value.ref z] s) (F0 m 127 ls []) := by rw [ekh127]; exact ih127
      have L_884 : ∀ (s27 : St) (v23 : Int32) (v24 : Int64) (v25 : Int32) (v26 : Int32) (H : Heap) (locs : List Loc) (ls : Array Slot), va_P D vwCl (wC y a s27) H → va_S (AC a 37 s.heap.size) s.heap H locs → lv_has ls 20 [(0, .ref z), (1, .ref (a 0)), (2, .int v23), (3, .long v24), (5, .int v25), (6, .int v26)] → mL_law_884 xs L kh127 s27 v23 v24 v25 v26 = some () → W p l e room_1 s m #[Value.ref z] below meth c H locs 37 5296 (lw_Z below #[Value.ref z] s) (F0 m 884 ls []) := by
        intro s27 v23 v24 v25 v26 H locs ls hP hS hl hm
        unfold mL_law_884 at hm
        obtain ⟨x28, ex28⟩ : ∃ z : Int32, z = v26 + 1 := ⟨_, rfl⟩
        have hm := bnd_x ex28 hm
        refine lv_iinc (v := x28) (lv' := [(6, .int x28), (0, .ref z), (1, .ref (a 0)), (2, .int v23), (3, .long v24), (5, .int v25)]) hx hb dL_law_884 hl (k := 5) rfl (by rw [ex28]; rfl) (by decide) rfl (fun ls hl => ?_)
        refine lv_goto (tgt := 127) hx hb dL_law_887 (by decide) ?_
        exact ih127 s27 v23 v24 v25 x28 _ _ _ hP hS (lv_sub hl [1, 2, 3, 4, 5, 0] rfl) hm
      have L_881 : ∀ (s33 : St) (v29 : Int32) (v30 : Int64) (v31 : Int32) (v32 : Int32) (H : Heap) (locs : List Loc) (ls : Array Slot), va_P D vwCl (wC y a s33) H → va_S (AC a 37 s.heap.size) s.heap H locs → lv_has ls 20 [(0, .ref z), (1, .ref (a 0)), (2, .int v29), (3, .long v30), (5, .int v31), (6, .int v32)] → mL_law_881 xs L kh127 s33 v29 v30 v31 v32 = some () → W p l e room_1 s m #[Value.ref z] below meth c H locs 37 5296 (lw_Z below #[Value.ref z] s) (F0 m 881 ls []) := by
        intro s33 v29 v30 v31 v32 H locs ls hP hS hl hm
        unfold mL_law_881 at hm
        obtain ⟨x34, ex34⟩ : ∃ z : Int32, z = v31 + 1 := ⟨_, rfl⟩
        have hm := bnd_x ex34 hm
        refine lv_iinc (v := x34) (lv' := [(5, .int x34), (0, .ref z), (1, .ref (a 0)), (2, .int v29), (3, .long v30), (6, .int v32)]) hx hb dL_law_881 hl (k := 4) rfl (by rw [ex34]; rfl) (by decide) rfl (fun ls hl => ?_)
        exact L_884 s33 v29 v30 x34 v32 _ _ _ hP hS (lv_sub hl [1, 2, 3, 4, 0, 5] rfl) hm
      have L_790 : ∀ (n : Nat) (s69 : St) (v63 : Int32) (v64 : Int64) (v65 : Int32) (v66 : Int32) (v67 : Int32) (v68 : Int32) (H : Heap) (locs : List Loc) (ls : Array Slot), va_P D vwCl (wC y a s69) H → va_S (AC a 37 s.heap.size) s.heap H locs → lv_has ls 20 [(0, .ref z), (1, .ref (a 0)), (2, .int v63), (3, .long v64), (5, .int v65), (6, .int v66), (15, .int v67), (17, .int v68)] → mL_law_790 xs L kh127 n s69 v63 v64 v65 v66 v67 v68 = some () → W p l e room_1 s m #[Value.ref z] below meth c H locs 37 5296 (lw_Z below #[Value.ref z] s) (F0 m 790 ls []) := by
        intro n
        induction n with
        | zero =>
          intro s69 v63 v64 v65 v66 v67 v68 H locs ls hP hS hl hm
          exact absurd (show (none : Option Unit) = some () from hm) (by intro h; cases h)
        | succ n ih790 =>
          obtain ⟨kh790, ekh790⟩ : ∃ z, z = mL_law_790 xs L kh127 n := ⟨_, rfl⟩
          have ih790 : ∀ (s69 : St) (v63 : Int32) (v64 : Int64) (v65 : Int32) (v66 : Int32) (v67 : Int32) (v68 : Int32) (H : Heap) (locs : List Loc) (ls : Array Slot), va_P D vwCl (wC y a s69) H → va_S (AC a 37 s.heap.size) s.heap H locs → lv_has ls 20 [(0, .ref z), (1, .ref (a 0)), (2, .int v63), (3, .long v64), (5, .int v65), (6, .int v66), (15, .int v67), (17, .int v68)] → kh790 s69 v63 v64 v65 v66 v67 v68 = some () → W p l e room_1 s m #[Value.ref z] below meth c H locs 37 5296 (lw_Z below #[Value.ref z] s) (F0 m 790 ls []) := by rw [ekh790]; exact ih790
          have L_875 : ∀ (s41 : St) (v35 : Int32) (v36 : Int64) (v37 : Int32) (v38 : Int32) (v39 : Int32) (v40 : Int32) (H : Heap) (locs : List Loc) (ls : Array Slot), va_P D vwCl (wC y a s41) H → va_S (AC a 37 s.heap.size) s.heap H locs → lv_has ls 20 [(0, .ref z), (1, .ref (a 0)), (2, .int v35), (3, .long v36), (5, .int v37), (6, .int v38), (15, .int v39), (17, .int v40)] → mL_law_875 xs L kh127 kh790 s41 v35 v36 v37 v38 v39 v40 = some () → W p l e room_1 s m #[Value.ref z] below meth c H locs 37 5296 (lw_Z below #[Value.ref z] s) (F0 m 875 ls []) := by
            intro s41 v35 v36 v37 v38 v39 v40 H locs ls hP hS hl hm
            unfold mL_law_875 at hm
            obtain ⟨x42, ex42⟩ : ∃ z : Int32, z = v40 + 1 := ⟨_, rfl⟩
            have hm := bnd_x ex42 hm
            refine lv_iinc (v := x42) (lv' := [(17, .int x42), (0, .ref z), (1, .ref (a 0)), (2, .int v35), (3, .long v36), (5, .int v37), (6, .int v38), (15, .int v39)]) hx hb dL_law_875 hl (k := 7) rfl (by rw [ex42]; rfl) (by decide) rfl (fun ls hl => ?_)
            refine lv_goto (tgt := 790) hx hb dL_law_878 (by decide) ?_
            exact ih790 s41 v35 v36 v37 v38 v39 x42 _ _ _ hP hS (lv_sub hl [1, 2, 3, 4, 5, 6, 7, 0] rfl) hm
          have L_818 : ∀ (s50 : St) (v43 : Int32) (v44 : Int64) (v45 : Int32) (v46 : Int32) (v47 : Int32) (v48 : Int32) (v49 : Int32) (H : Heap) (locs : List Loc) (ls : Array Slot), va_P D vwCl (wC y a s50) H → va_S (AC a 37 s.heap.size) s.heap H locs → lv_has ls 20 [(0, .ref z), (1, .ref (a 0)), (2, .int v43), (3, .long v44), (5, .int v45), (6, .int v46), (15, .int v47), (17, .int v48)] → mL_law_818 xs L kh127 kh790 s50 v43 v44 v45 v46 v47 v48 v49 = some () → W p l e room_1 s m #[Value.ref z] below meth c H locs 37 5296 (lw_Z below #[Value.ref z] s) (F0 m 818 ls [.int v49]) := by
            intro s50 v43 v44 v45 v46 v47 v48 v49 H locs ls hP hS hl hm
            unfold mL_law_818 at hm
            refine lv_istore (lv' := [(18, .int v49), (0, .ref z), (1, .ref (a 0)), (2, .int v43), (3, .long v44), (5, .int v45), (6, .int v46), (15, .int v47), (17, .int v48)]) hx hb dL_law_818 hl (by decide) rfl (fun ls hl => ?_)
            refine lv_aload_n hx hb dL_law_820 rfl (lv_at hl 2 rfl) ?_
            refine lv_iload hx hb dL_law_821 (lv_at hl 5 rfl) ?_
            refine lv_iload hx hb dL_law_823 (lv_at hl 7 rfl) ?_
            refine lv_iload hx hb dL_law_825 (lv_at hl 8 rfl) ?_
            obtain ⟨⟨r51, s53⟩, h52, hm⟩ := ok_bind hm
            refine calV_i (As := [.int v45, .int v47, .int v48]) (rest := []) ⟨hx, hb, hml, hown, hts⟩ (kX7_instance l D y a t hI _ s50 s53 v45 v47 v48 r51 h52) (cwV 3 hts (gAV aM_L_87 aI_X7_instance aS_X7_instance aN_X7 aC_X7_instance) rfl rfl rfl eX7_instance ⟨Nat.le_of_ble_eq_true rfl, Nat.le_of_ble_eq_true rfl⟩) (preV_W (ci := 7) (q := (RX7, TX7, 6)) hK hP hF hS rfl (wC_0 y a s50)) rfl hl.1 rfl (Nat.le_of_ble_eq_true rfl) dL_law_827 ⟨Nat.le_of_ble_eq_true rfl, Nat.le_of_ble_eq_true rfl⟩ hS (AC_le hS.1) (fun H locs hP hS hk1 => ?_)
            refine lv_istore (lv' := [(19, .int r51), (18, .int v49), (0, .ref z), (1, .ref (a 0)), (2, .int v43), (3, .long v44), (5, .int v45), (6, .int v46), (15, .int v47), (17, .int v48)]) hx hb dL_law_830 hl (by decide) rfl (fun ls hl => ?_)
            refine lv_iload hx hb dL_law_832 (lv_at hl 1 rfl) ?_
            refine lv_if_eq (tgt := 867) hx hb dL_law_834 (by decide) (fun c54 => ?_) (fun c54 => ?_)
            · have hm := (if_pos c54).symm.trans hm
              refine lv_iload hx hb dL_law_867 (lv_at hl 0 rfl) ?_
              refine lv_iconst (v := (-1)) hx hb dL_law_869 (by decide) ?_
              refine lv_icmp_eq (tgt := 875) hx hb dL_law_870 (by decide) (fun c55 => ?_) (fun c55 => ?_)
              · have hm := (if_pos c55).symm.trans hm
                exact L_875 s53 v43 v44 v45 v46 v47 v48 _ _ _ hP hS (lv_sub hl [2, 3, 4, 5, 6, 7, 8, 9] rfl) hm
              · have hm := (if_neg c55).symm.trans hm
                refine lv_iconst (v := 0) hx hb dL_law_873 (by decide) ?_
                cases hm
            · have hm := (if_neg c54).symm.trans hm
              refine lv_iload hx hb dL_law_837 (lv_at hl 0 rfl) ?_
              refine lv_if_lt (tgt := 873) hx hb dL_law_839 (by decide) (fun c56 => ?_) (fun c56 => ?_)
              · have hm := (if_pos c56).symm.trans hm
                refine lv_iconst (v := 0) hx hb dL_law_873 (by decide) ?_
                cases hm
              · have hm := (if_neg c56).symm.trans hm
                refine lv_aload_n hx hb dL_law_842 rfl (lv_at hl 3 rfl) ?_
                refine lv_iload hx hb dL_law_843 (lv_at hl 0 rfl) ?_
                refine lv_iconst (v := 0) hx hb dL_law_845 (by decide) ?_
                obtain ⟨r57, h58, hm⟩ := ok_bind hm
                refine calV_i (As := [.int r51, .int 0]) (rest := []) ⟨hx, hb, hml, hown, hts⟩ (kX7_formula l D y a t hI _ s53 r51 0 r57 h58) (cwV 2 hts (gAV aM_L_78 aI_X7_formula aS_X7_formula aN_X7 aC_X7_formula) rfl rfl rfl eX7_formula ⟨Nat.le_of_ble_eq_true rfl, Nat.le_of_ble_eq_true rfl⟩) (preV_W (ci := 7) (q := (RX7, TX7, 6)) hK hP hF hS rfl (wC_0 y a s53)) rfl hl.1 rfl (Nat.le_of_ble_eq_true rfl) dL_law_846 ⟨Nat.le_of_ble_eq_true rfl, Nat.le_of_ble_eq_true rfl⟩ hS (AC_le hS.1) (fun H locs hP hS hk1 => ?_)
                refine lv_if_ne (tgt := 873) hx hb dL_law_849 (by decide) (fun c59 => ?_) (fun c59 => ?_)
                · have hm := (if_neg c59).symm.trans hm
                  refine lv_iconst (v := 0) hx hb dL_law_873 (by decide) ?_
                  cases hm
                · have hm := (if_pos c59).symm.trans hm
                  refine lv_aload_n hx hb dL_law_852 rfl (lv_at hl 3 rfl) ?_
                  refine lv_iload hx hb dL_law_853 (lv_at hl 0 rfl) ?_
                  refine lv_iconst (v := 1) hx hb dL_law_855 (by decide) ?_
                  obtain ⟨r60, h61, hm⟩ := ok_bind hm
                  refine calV_i (As := [.int r51, .int 1]) (rest := []) ⟨hx, hb, hml, hown, hts⟩ (kX7_formula l D y a t hI _ s53 r51 1 r60 h61) (cwV 2 hts (gAV aM_L_78 aI_X7_formula aS_X7_formula aN_X7 aC_X7_formula) rfl rfl rfl eX7_formula ⟨Nat.le_of_ble_eq_true rfl, Nat.le_of_ble_eq_true rfl⟩) (preV_W (ci := 7) (q := (RX7, TX7, 6)) hK hP hF hS rfl (wC_0 y a s53)) rfl hl.1 rfl (Nat.le_of_ble_eq_true rfl) dL_law_856 ⟨Nat.le_of_ble_eq_true rfl, Nat.le_of_ble_eq_true rfl⟩ hS (AC_le hS.1) (fun H locs hP hS hk1 => ?_)
                  refine lv_iload hx hb dL_law_859 (lv_at hl 9 rfl) ?_
                  refine lv_icmp_eq (tgt := 875) hx hb dL_law_861 (by decide) (fun c62 => ?_) (fun c62 => ?_)
                  · have hm := (if_pos c62).symm.trans hm
                    exact L_875 s53 v43 v44 v45 v46 v47 v48 _ _ _ hP hS (lv_sub hl [2, 3, 4, 5, 6, 7, 8, 9] rfl) hm
                  · have hm := (if_neg c62).symm.trans hm
                    refine lv_goto (tgt := 873) hx hb dL_law_864 (by decide) ?_
                    refine lv_iconst (v := 0) hx hb dL_law_873 (by decide) ?_
                    cases hm
          intro s69 v63 v64 v65 v66 v67 v68 H locs ls hP hS hl hm
          have hm : bL_law_790 xs L kh127 (mL_law_790 xs L kh127 n) s69 v63 v64 v65 v66 v67 v68 = some () := hm
          rw [← ekh790] at hm
          unfold bL_law_790 at hm
          refine lv_iload hx hb dL_law_790 (lv_at hl 7 rfl) ?_
          refine lv_bipush (v := 8) hx hb dL_law_792 (by decide) ?_
          refine lv_icmp_ge (tgt := 881) hx hb dL_law_794 (by decide) (fun c70 => ?_) (fun c70 => ?_)
          · have hm := (if_pos c70).symm.trans hm
            exact L_881 s69 v63 v64 v65 v66 _ _ _ hP hS (lv_sub hl [0, 1, 2, 3, 4, 5] rfl) hm
          · have hm := (if_neg c70).symm.trans hm
            refine lv_aload_n hx hb dL_law_797 rfl (lv_at hl 1 rfl) ?_
            refine lv_iload hx hb dL_law_798 (lv_at hl 6 rfl) ?_
            refine lv_iconst (v := 3) hx hb dL_law_800 (by decide) ?_
            obtain ⟨r71, h72, hm⟩ := ok_bind hm
            refine calV_i (As := [.int v67, .int 3]) (rest := []) ⟨hx, hb, hml, hown, hts⟩ (kX7_formula l D y a t hI _ s69 v67 3 r71 h72) (cwV 2 hts (gAV aM_L_78 aI_X7_formula aS_X7_formula aN_X7 aC_X7_formula) rfl rfl rfl eX7_formula ⟨Nat.le_of_ble_eq_true rfl, Nat.le_of_ble_eq_true rfl⟩) (preV_W (ci := 7) (q := (RX7, TX7, 6)) hK hP hF hS rfl (wC_0 y a s69)) rfl hl.1 rfl (Nat.le_of_ble_eq_true rfl) dL_law_801 ⟨Nat.le_of_ble_eq_true rfl, Nat.le_of_ble_eq_true rfl⟩ hS (AC_le hS.1) (fun H locs hP hS hk1 => ?_)
            refine lv_iload hx hb dL_law_804 (lv_at hl 7 rfl) ?_
            refine lv_ishr hx hb dL_law_806 ?_
            refine lv_iconst (v := 1) hx hb dL_law_807 (by decide) ?_
            refine lv_iand hx hb dL_law_808 ?_
            refine lv_iconst (v := 1) hx hb dL_law_809 (by decide) ?_
            refine lv_icmp_ne (tgt := 817) hx hb dL_law_810 (by decide) (fun c73 => ?_) (fun c73 => ?_)
            · have hm := (if_neg c73).symm.trans hm
              refine lv_iconst (v := 0) hx hb dL_law_817 (by decide) ?_
              exact L_818 s69 v63 v64 v65 v66 v67 v68 0 _ _ _ hP hS (lv_sub hl [0, 1, 2, 3, 4, 5, 6, 7] rfl) hm
            · have hm := (if_pos c73).symm.trans hm
              refine lv_iconst (v := 1) hx hb dL_law_813 (by decide) ?_
              refine lv_goto (tgt := 818) hx hb dL_law_814 (by decide) ?_
              exact L_818 s69 v63 v64 v65 v66 v67 v68 1 _ _ _ hP hS (lv_sub hl [0, 1, 2, 3, 4, 5, 6, 7] rfl) hm
      have L_787 : ∀ (s79 : St) (v74 : Int32) (v75 : Int64) (v76 : Int32) (v77 : Int32) (v78 : Int32) (H : Heap) (locs : List Loc) (ls : Array Slot), va_P D vwCl (wC y a s79) H → va_S (AC a 37 s.heap.size) s.heap H locs → lv_has ls 20 [(0, .ref z), (1, .ref (a 0)), (2, .int v74), (3, .long v75), (5, .int v76), (6, .int v77), (15, .int v78)] → mL_law_787 xs L kh127 s79 v74 v75 v76 v77 v78 = some () → W p l e room_1 s m #[Value.ref z] below meth c H locs 37 5296 (lw_Z below #[Value.ref z] s) (F0 m 787 ls []) := by
        intro s79 v74 v75 v76 v77 v78 H locs ls hP hS hl hm
        unfold mL_law_787 at hm
        refine lv_iconst (v := 0) hx hb dL_law_787 (by decide) ?_
        refine lv_istore (lv' := [(17, .int 0), (0, .ref z), (1, .ref (a 0)), (2, .int v74), (3, .long v75), (5, .int v76), (6, .int v77), (15, .int v78)]) hx hb dL_law_788 hl (by decide) rfl (fun ls hl => ?_)
        exact L_790 NF s79 v74 v75 v76 v77 v78 0 _ _ _ hP hS (lv_sub hl [1, 2, 3, 4, 5, 6, 7, 0] rfl) hm
      have L_750 : ∀ (s86 : St) (v80 : Int32) (v81 : Int64) (v82 : Int32) (v83 : Int32) (v84 : Int32) (v85 : Int32) (H : Heap) (locs : List Loc) (ls : Array Slot), va_P D vwCl (wC y a s86) H → va_S (AC a 37 s.heap.size) s.heap H locs → lv_has ls 20 [(0, .ref z), (1, .ref (a 0)), (2, .int v80), (3, .long v81), (5, .int v82), (6, .int v83), (15, .int v84), (16, .int v85)] → mL_law_750 xs L kh127 s86 v80 v81 v82 v83 v84 v85 = some () → W p l e room_1 s m #[Value.ref z] below meth c H locs 37 5296 (lw_Z below #[Value.ref z] s) (F0 m 750 ls []) := by
        intro s86 v80 v81 v82 v83 v84 v85 H locs ls hP hS hl hm
        unfold mL_law_750 at hm
        refine lv_iload hx hb dL_law_750 (lv_at hl 7 rfl) ?_
        refine lv_if_ne (tgt := 787) hx hb dL_law_752 (by decide) (fun c87 => ?_) (fun c87 => ?_)
        · have hm := (if_neg c87).symm.trans hm
          exact L_787 s86 v80 v81 v82 v83 v84 _ _ _ hP hS (lv_sub hl [0, 1, 2, 3, 4, 5, 6] rfl) hm
        · have hm := (if_pos c87).symm.trans hm
          refine lv_aload_n hx hb dL_law_755 rfl (lv_at hl 1 rfl) ?_
          refine lv_bipush (v := 13) hx hb dL_law_756 (by decide) ?_
          refine lv_iload hx hb dL_law_758 (lv_at hl 6 rfl) ?_
          refine lv_iload hx hb dL_law_760 (lv_at hl 4 rfl) ?_
          refine lv_iconst (v := 0) hx hb dL_law_762 (by decide) ?_
          refine lv_iconst (v := 0) hx hb dL_law_763 (by decide) ?_
          obtain ⟨⟨r88, s90⟩, h89, hm⟩ := ok_bind hm
          refine calV_i (As := [.int 13, .int v84, .int v82, .int 0, .int 0]) (rest := []) ⟨hx, hb, hml, hown, hts⟩ (kX7_step l D y a t hI _ s86 s90 13 v84 v82 0 0 r88 h89) (cwV 5 hts (gAV aM_L_65 aI_X7_step aS_X7_step aN_X7 aC_X7_step) rfl rfl rfl eX7_step ⟨Nat.le_of_ble_eq_true rfl, Nat.le_of_ble_eq_true rfl⟩) (preV_W (ci := 7) (q := (RX7, TX7, 6)) hK hP hF hS rfl (wC_0 y a s86)) rfl hl.1 rfl (Nat.le_of_ble_eq_true rfl) dL_law_764 ⟨Nat.le_of_ble_eq_true rfl, Nat.le_of_ble_eq_true rfl⟩ hS (AC_le hS.1) (fun H locs hP hS hk1 => ?_)
          refine lv_if_ne (tgt := 785) hx hb dL_law_767 (by decide) (fun c91 => ?_) (fun c91 => ?_)
          · have hm := (if_neg c91).symm.trans hm
            refine lv_iconst (v := 0) hx hb dL_law_785 (by decide) ?_
            cases hm
          · have hm := (if_pos c91).symm.trans hm
            refine lv_aload_n hx hb dL_law_770 rfl (lv_at hl 1 rfl) ?_
            refine lv_iconst (v := 0) hx hb dL_law_771 (by decide) ?_
            obtain ⟨r92, h93, hm⟩ := ok_bind hm
            refine calV_i (As := [.int 0]) (rest := []) ⟨hx, hb, hml, hown, hts⟩ (kX7_fails l D y a t hI _ s90 0 r92 h93) (cwV 1 hts (gAV aM_L_75 aI_X7_fails aS_X7_fails aN_X7 aC_X7_fails) rfl rfl rfl eX7_fails ⟨Nat.le_of_ble_eq_true rfl, Nat.le_of_ble_eq_true rfl⟩) (preV_W (ci := 7) (q := (RX7, TX7, 6)) hK hP hF hS rfl (wC_0 y a s90)) rfl hl.1 rfl (Nat.le_of_ble_eq_true rfl) dL_law_772 ⟨Nat.le_of_ble_eq_true rfl, Nat.le_of_ble_eq_true rfl⟩ hS (AC_le hS.1) (fun H locs hP hS hk1 => ?_)
            refine lv_if_ne (tgt := 785) hx hb dL_law_775 (by decide) (fun c94 => ?_) (fun c94 => ?_)
            · have hm := (if_neg c94).symm.trans hm
              refine lv_iconst (v := 0) hx hb dL_law_785 (by decide) ?_
              cases hm
            · have hm := (if_pos c94).symm.trans hm
              refine lv_aload_n hx hb dL_law_778 rfl (lv_at hl 1 rfl) ?_
              obtain ⟨⟨r95, s97⟩, h96, hm⟩ := ok_bind hm
              refine calV_i (As := []) (rest := []) ⟨hx, hb, hml, hown, hts⟩ (kX7_undo l D y a t hI _ s90 s97 r95 h96) (cwV 0 hts (gAV aM_L_72 aI_X7_undo aS_X7_undo aN_X7 aC_X7_undo) rfl rfl rfl eX7_undo ⟨Nat.le_of_ble_eq_true rfl, Nat.le_of_ble_eq_true rfl⟩) (preV_W (ci := 7) (q := (RX7, TX7, 6)) hK hP hF hS rfl (wC_0 y a s90)) rfl hl.1 rfl (Nat.le_of_ble_eq_true rfl) dL_law_779 ⟨Nat.le_of_ble_eq_true rfl, Nat.le_of_ble_eq_true rfl⟩ hS (AC_le hS.1) (fun H locs hP hS hk1 => ?_)
              refine lv_if_eq (tgt := 787) hx hb dL_law_782 (by decide) (fun c98 => ?_) (fun c98 => ?_)
              · have hm := (if_pos c98).symm.trans hm
                exact L_787 s97 v80 v81 v82 v83 v84 _ _ _ hP hS (lv_sub hl [0, 1, 2, 3, 4, 5, 6] rfl) hm
              · have hm := (if_neg c98).symm.trans hm
                refine lv_iconst (v := 0) hx hb dL_law_785 (by decide) ?_
                cases hm
      have L_630 : ∀ (s105 : St) (v99 : Int32) (v100 : Int64) (v101 : Int32) (v102 : Int32) (v103 : Int32) (v104 : Int32) (H : Heap) (locs : List Loc) (ls : Array Slot), va_P D vwCl (wC y a s105) H → va_S (AC a 37 s.heap.size) s.heap H locs → lv_has ls 20 [(0, .ref z), (1, .ref (a 0)), (2, .int v99), (3, .long v100), (5, .int v101), (6, .int v102), (7, .int v103)] → mL_law_630 xs L kh127 s105 v99 v100 v101 v102 v103 v104 = some () → W p l e room_1 s m #[Value.ref z] below meth c H locs 37 5296 (lw_Z below #[Value.ref z] s) (F0 m 630 ls [.int v104]) := by
        intro s105 v99 v100 v101 v102 v103 v104 H locs ls hP hS hl hm
        unfold mL_law_630 at hm
        refine lv_istore (lv' := [(14, .int v104), (0, .ref z), (1, .ref (a 0)), (2, .int v99), (3, .long v100), (5, .int v101), (6, .int v102), (7, .int v103)]) hx hb dL_law_630 hl (by decide) rfl (fun ls hl => ?_)
        refine lv_iload hx hb dL_law_632 (lv_at hl 0 rfl) ?_
        refine lv_if_eq (tgt := 884) hx hb dL_law_634 (by decide) (fun c106 => ?_) (fun c106 => ?_)
        · have hm := (if_pos c106).symm.trans hm
          exact L_884 s105 v99 v100 v101 v102 _ _ _ hP hS (lv_sub hl [1, 2, 3, 4, 5, 6] rfl) hm
        · have hm := (if_neg c106).symm.trans hm
          refine lv_iload hx hb dL_law_637 (lv_at hl 7 rfl) ?_
          refine lv_bipush (v := 8) hx hb dL_law_639 (by decide) ?_
          refine lv_ishr hx hb dL_law_641 ?_
          refine lv_iconst (v := 4) hx hb dL_law_642 (by decide) ?_
          obtain ⟨r107, h108, hm⟩ := ok_bind hm
          refine calS_i (As := [.int (v103 >>> (8 &&& 31)), .int 4]) (rest := []) ⟨hx, hb, hml, hown, hts⟩ (kL_below l D y a t hI _ s105 (v103 >>> (8 &&& 31)) 4 r107 h108) (va_cwS 2 hts (gAS aM_L_37 aT_L_below aN_L aC_L_below) rfl rfl rfl eL_below ⟨Nat.le_of_ble_eq_true rfl, Nat.le_of_ble_eq_true rfl⟩) (preS_W hK hP hF hS) rfl hl.1 rfl (Nat.le_of_ble_eq_true rfl) dL_law_643 ⟨Nat.le_of_ble_eq_true rfl, Nat.le_of_ble_eq_true rfl⟩ hS (AC_le hS.1) (fun H locs hP hS hk1 => ?_)
          refine lv_if_ne (tgt := 884) hx hb dL_law_646 (by decide) (fun c109 => ?_) (fun c109 => ?_)
          · have hm := (if_neg c109).symm.trans hm
            exact L_884 s105 v99 v100 v101 v102 _ _ _ hP hS (lv_sub hl [1, 2, 3, 4, 5, 6] rfl) hm
          · have hm := (if_pos c109).symm.trans hm
            refine lv_iload hx hb dL_law_649 (lv_at hl 5 rfl) ?_
            refine lv_bipush (v := 16) hx hb dL_law_651 (by decide) ?_
            refine lv_icmp_ge (tgt := 884) hx hb dL_law_653 (by decide) (fun c110 => ?_) (fun c110 => ?_)
            · have hm := (if_pos c110).symm.trans hm
              exact L_884 s105 v99 v100 v101 v102 _ _ _ hP hS (lv_sub hl [1, 2, 3, 4, 5, 6] rfl) hm
            · have hm := (if_neg c110).symm.trans hm
              refine lv_aload_n hx hb dL_law_656 rfl (lv_at hl 2 rfl) ?_
              refine lv_aload_n hx hb dL_law_657 rfl (lv_at hl 2 rfl) ?_
              refine lv_iconst (v := 3) hx hb dL_law_658 (by decide) ?_
              obtain ⟨⟨r111, s113⟩, h112, hm⟩ := ok_bind hm
              refine calV_i (As := [.int 3]) (rest := [.ref (a 0)]) ⟨hx, hb, hml, hown, hts⟩ (kX7_count l D y a t hI _ s105 s113 3 r111 h112) (cwV 1 hts (gAV aM_L_45 aI_X7_count aS_X7_count aN_X7 aC_X7_count) rfl rfl rfl eX7_count ⟨Nat.le_of_ble_eq_true rfl, Nat.le_of_ble_eq_true rfl⟩) (preV_W (ci := 7) (q := (RX7, TX7, 6)) hK hP hF hS rfl (wC_0 y a s105)) rfl hl.1 rfl (Nat.le_of_ble_eq_true rfl) dL_law_659 ⟨Nat.le_of_ble_eq_true rfl, Nat.le_of_ble_eq_true rfl⟩ hS (AC_le hS.1) (fun H locs hP hS hk1 => ?_)
              refine lv_iconst (v := 1) hx hb dL_law_662 (by decide) ?_
              refine lv_isub hx hb dL_law_663 ?_
              refine lv_iconst (v := 0) hx hb dL_law_664 (by decide) ?_
              obtain ⟨⟨r114, s116⟩, h115, hm⟩ := ok_bind hm
              refine calV_i (As := [.int (r111 - 1), .int 0]) (rest := []) ⟨hx, hb, hml, hown, hts⟩ (kX7_line l D y a t hI _ s113 s116 (r111 - 1) 0 r114 h115) (cwV 2 hts (gAV aM_L_69 aI_X7_line aS_X7_line aN_X7 aC_X7_line) rfl rfl rfl eX7_line ⟨Nat.le_of_ble_eq_true rfl, Nat.le_of_ble_eq_true rfl⟩) (preV_W (ci := 7) (q := (RX7, TX7, 6)) hK hP hF hS rfl (wC_0 y a s113)) rfl hl.1 rfl (Nat.le_of_ble_eq_true rfl) dL_law_665 ⟨Nat.le_of_ble_eq_true rfl, Nat.le_of_ble_eq_true rfl⟩ hS (AC_le hS.1) (fun H locs hP hS hk1 => ?_)
              refine lv_istore (lv' := [(15, .int r114), (14, .int v104), (0, .ref z), (1, .ref (a 0)), (2, .int v99), (3, .long v100), (5, .int v101), (6, .int v102), (7, .int v103)]) hx hb dL_law_668 hl (by decide) rfl (fun ls hl => ?_)
              refine lv_aload_n hx hb dL_law_670 rfl (lv_at hl 3 rfl) ?_
              refine lv_bipush (v := 6) hx hb dL_law_671 (by decide) ?_
              obtain ⟨⟨r117, s119⟩, h118, hm⟩ := ok_bind hm
              refine calV_i (As := [.int 6]) (rest := []) ⟨hx, hb, hml, hown, hts⟩ (kX7_count l D y a t hI _ s116 s119 6 r117 h118) (cwV 1 hts (gAV aM_L_45 aI_X7_count aS_X7_count aN_X7 aC_X7_count) rfl rfl rfl eX7_count ⟨Nat.le_of_ble_eq_true rfl, Nat.le_of_ble_eq_true rfl⟩) (preV_W (ci := 7) (q := (RX7, TX7, 6)) hK hP hF hS rfl (wC_0 y a s116)) rfl hl.1 rfl (Nat.le_of_ble_eq_true rfl) dL_law_673 ⟨Nat.le_of_ble_eq_true rfl, Nat.le_of_ble_eq_true rfl⟩ hS (AC_le hS.1) (fun H locs hP hS hk1 => ?_)
              refine lv_istore (lv' := [(16, .int r117), (15, .int r114), (14, .int v104), (0, .ref z), (1, .ref (a 0)), (2, .int v99), (3, .long v100), (5, .int v101), (6, .int v102), (7, .int v103)]) hx hb dL_law_676 hl (by decide) rfl (fun ls hl => ?_)
              refine lv_aload_n hx hb dL_law_678 rfl (lv_at hl 4 rfl) ?_
              obtain ⟨⟨r120, s122⟩, h121, hm⟩ := ok_bind hm
              refine calV_i (As := []) (rest := []) ⟨hx, hb, hml, hown, hts⟩ (kX7_end l D y a t hI _ s119 s122 r120 h121) (cwV 0 hts (gAV aM_L_81 aI_X7_end aS_X7_end aN_X7 aC_X7_end) rfl rfl rfl eX7_end ⟨Nat.le_of_ble_eq_true rfl, Nat.le_of_ble_eq_true rfl⟩) (preV_W (ci := 7) (q := (RX7, TX7, 6)) hK hP hF hS rfl (wC_0 y a s119)) rfl hl.1 rfl (Nat.le_of_ble_eq_true rfl) dL_law_679 ⟨Nat.le_of_ble_eq_true rfl, Nat.le_of_ble_eq_true rfl⟩ hS (AC_le hS.1) (fun H locs hP hS hk1 => ?_)
              refine lv_iload hx hb dL_law_682 (lv_at hl 7 rfl) ?_
              refine lv_icmp_ne (tgt := 728) hx hb dL_law_684 (by decide) (fun c123 => ?_) (fun c123 => ?_)
              · have hm := (if_neg c123).symm.trans hm
                refine lv_iconst (v := 0) hx hb dL_law_728 (by decide) ?_
                cases hm
              · have hm := (if_pos c123).symm.trans hm
                refine lv_aload_n hx hb dL_law_687 rfl (lv_at hl 4 rfl) ?_
                refine lv_iload hx hb dL_law_688 (lv_at hl 7 rfl) ?_
                refine lv_iconst (v := 0) hx hb dL_law_690 (by decide) ?_
                obtain ⟨r124, h125, hm⟩ := ok_bind hm
                refine calV_i (As := [.int v101, .int 0]) (rest := []) ⟨hx, hb, hml, hown, hts⟩ (kX7_theorem l D y a t hI _ s122 v101 0 r124 h125) (cwV 2 hts (gAV aM_L_84 aI_X7_theorem aS_X7_theorem aN_X7 aC_X7_theorem) rfl rfl rfl eX7_theorem ⟨Nat.le_of_ble_eq_true rfl, Nat.le_of_ble_eq_true rfl⟩) (preV_W (ci := 7) (q := (RX7, TX7, 6)) hK hP hF hS rfl (wC_0 y a s122)) rfl hl.1 rfl (Nat.le_of_ble_eq_true rfl) dL_law_691 ⟨Nat.le_of_ble_eq_true rfl, Nat.le_of_ble_eq_true rfl⟩ hS (AC_le hS.1) (fun H locs hP hS hk1 => ?_)
                refine lv_iload hx hb dL_law_694 (lv_at hl 1 rfl) ?_
                refine lv_icmp_ne (tgt := 728) hx hb dL_law_696 (by decide) (fun c126 => ?_) (fun c126 => ?_)
                · have hm := (if_neg c126).symm.trans hm
                  refine lv_iconst (v := 0) hx hb dL_law_728 (by decide) ?_
                  cases hm
                · have hm := (if_pos c126).symm.trans hm
                  refine lv_aload_n hx hb dL_law_699 rfl (lv_at hl 4 rfl) ?_
                  refine lv_iload hx hb dL_law_700 (lv_at hl 7 rfl) ?_
                  refine lv_iconst (v := 1) hx hb dL_law_702 (by decide) ?_
                  obtain ⟨r127, h128, hm⟩ := ok_bind hm
                  refine calV_i (As := [.int v101, .int 1]) (rest := []) ⟨hx, hb, hml, hown, hts⟩ (kX7_theorem l D y a t hI _ s122 v101 1 r127 h128) (cwV 2 hts (gAV aM_L_84 aI_X7_theorem aS_X7_theorem aN_X7 aC_X7_theorem) rfl rfl rfl eX7_theorem ⟨Nat.le_of_ble_eq_true rfl, Nat.le_of_ble_eq_true rfl⟩) (preV_W (ci := 7) (q := (RX7, TX7, 6)) hK hP hF hS rfl (wC_0 y a s122)) rfl hl.1 rfl (Nat.le_of_ble_eq_true rfl) dL_law_703 ⟨Nat.le_of_ble_eq_true rfl, Nat.le_of_ble_eq_true rfl⟩ hS (AC_le hS.1) (fun H locs hP hS hk1 => ?_)
                  refine lv_iload hx hb dL_law_706 (lv_at hl 0 rfl) ?_
                  refine lv_icmp_ne (tgt := 728) hx hb dL_law_708 (by decide) (fun c129 => ?_) (fun c129 => ?_)
                  · have hm := (if_neg c129).symm.trans hm
                    refine lv_iconst (v := 0) hx hb dL_law_728 (by decide) ?_
                    cases hm
                  · have hm := (if_pos c129).symm.trans hm
                    refine lv_aload_n hx hb dL_law_711 rfl (lv_at hl 4 rfl) ?_
                    refine lv_iload hx hb dL_law_712 (lv_at hl 7 rfl) ?_
                    refine lv_iconst (v := 5) hx hb dL_law_714 (by decide) ?_
                    obtain ⟨r130, h131, hm⟩ := ok_bind hm
                    refine calV_i (As := [.int v101, .int 5]) (rest := []) ⟨hx, hb, hml, hown, hts⟩ (kX7_theorem l D y a t hI _ s122 v101 5 r130 h131) (cwV 2 hts (gAV aM_L_84 aI_X7_theorem aS_X7_theorem aN_X7 aC_X7_theorem) rfl rfl rfl eX7_theorem ⟨Nat.le_of_ble_eq_true rfl, Nat.le_of_ble_eq_true rfl⟩) (preV_W (ci := 7) (q := (RX7, TX7, 6)) hK hP hF hS rfl (wC_0 y a s122)) rfl hl.1 rfl (Nat.le_of_ble_eq_true rfl) dL_law_715 ⟨Nat.le_of_ble_eq_true rfl, Nat.le_of_ble_eq_true rfl⟩ hS (AC_le hS.1) (fun H locs hP hS hk1 => ?_)
                    refine lv_aload_n hx hb dL_law_718 rfl (lv_at hl 4 rfl) ?_
                    refine lv_iload hx hb dL_law_719 (lv_at hl 7 rfl) ?_
                    refine lv_iconst (v := 4) hx hb dL_law_721 (by decide) ?_
                    obtain ⟨r132, h133, hm⟩ := ok_bind hm
                    refine calV_i (As := [.int v101, .int 4]) (rest := [.int r130]) ⟨hx, hb, hml, hown, hts⟩ (kX7_theorem l D y a t hI _ s122 v101 4 r132 h133) (cwV 2 hts (gAV aM_L_84 aI_X7_theorem aS_X7_theorem aN_X7 aC_X7_theorem) rfl rfl rfl eX7_theorem ⟨Nat.le_of_ble_eq_true rfl, Nat.le_of_ble_eq_true rfl⟩) (preV_W (ci := 7) (q := (RX7, TX7, 6)) hK hP hF hS rfl (wC_0 y a s122)) rfl hl.1 rfl (Nat.le_of_ble_eq_true rfl) dL_law_722 ⟨Nat.le_of_ble_eq_true rfl, Nat.le_of_ble_eq_true rfl⟩ hS (AC_le hS.1) (fun H locs hP hS hk1 => ?_)
                    refine lv_icmp_le (tgt := 730) hx hb dL_law_725 (by decide) (fun c134 => ?_) (fun c134 => ?_)
                    · have hm := (if_pos c134).symm.trans hm
                      refine lv_iload hx hb dL_law_730 (lv_at hl 0 rfl) ?_
                      refine lv_if_ne (tgt := 750) hx hb dL_law_732 (by decide) (fun c135 => ?_) (fun c135 => ?_)
                      · have hm := (if_neg c135).symm.trans hm
                        exact L_750 s122 v99 v100 v101 v102 r114 r117 _ _ _ hP hS (lv_sub hl [3, 4, 5, 6, 7, 8, 1, 0] rfl) hm
                      · have hm := (if_pos c135).symm.trans hm
                        refine lv_aload_n hx hb dL_law_735 rfl (lv_at hl 4 rfl) ?_
                        refine lv_iload hx hb dL_law_736 (lv_at hl 1 rfl) ?_
                        refine lv_iconst (v := 4) hx hb dL_law_738 (by decide) ?_
                        obtain ⟨r136, h137, hm⟩ := ok_bind hm
                        refine calV_i (As := [.int r114, .int 4]) (rest := []) ⟨hx, hb, hml, hown, hts⟩ (kX7_formula l D y a t hI _ s122 r114 4 r136 h137) (cwV 2 hts (gAV aM_L_78 aI_X7_formula aS_X7_formula aN_X7 aC_X7_formula) rfl rfl rfl eX7_formula ⟨Nat.le_of_ble_eq_true rfl, Nat.le_of_ble_eq_true rfl⟩) (preV_W (ci := 7) (q := (RX7, TX7, 6)) hK hP hF hS rfl (wC_0 y a s122)) rfl hl.1 rfl (Nat.le_of_ble_eq_true rfl) dL_law_739 ⟨Nat.le_of_ble_eq_true rfl, Nat.le_of_ble_eq_true rfl⟩ hS (AC_le hS.1) (fun H locs hP hS hk1 => ?_)
                        refine lv_sipush (v := 256) hx hb dL_law_742 (by decide) ?_
                        refine lv_icmp_eq (tgt := 750) hx hb dL_law_745 (by decide) (fun c138 => ?_) (fun c138 => ?_)
                        · have hm := (if_pos c138).symm.trans hm
                          exact L_750 s122 v99 v100 v101 v102 r114 r117 _ _ _ hP hS (lv_sub hl [3, 4, 5, 6, 7, 8, 1, 0] rfl) hm
                        · have hm := (if_neg c138).symm.trans hm
                          refine lv_iconst (v := 0) hx hb dL_law_748 (by decide) ?_
                          cases hm
                    · have hm := (if_neg c134).symm.trans hm
                      refine lv_iconst (v := 0) hx hb dL_law_728 (by decide) ?_
                      cases hm
      have L_629 : ∀ (s144 : St) (v139 : Int32) (v140 : Int64) (v141 : Int32) (v142 : Int32) (v143 : Int32) (H : Heap) (locs : List Loc) (ls : Array Slot), va_P D vwCl (wC y a s144) H → va_S (AC a 37 s.heap.size) s.heap H locs → lv_has ls 20 [(0, .ref z), (1, .ref (a 0)), (2, .int v139), (3, .long v140), (5, .int v141), (6, .int v142), (7, .int v143)] → mL_law_629 xs L kh127 s144 v139 v140 v141 v142 v143 = some () → W p l e room_1 s m #[Value.ref z] below meth c H locs 37 5296 (lw_Z below #[Value.ref z] s) (F0 m 629 ls []) := by
        intro s144 v139 v140 v141 v142 v143 H locs ls hP hS hl hm
        unfold mL_law_629 at hm
        refine lv_iconst (v := 0) hx hb dL_law_629 (by decide) ?_
        exact L_630 s144 v139 v140 v141 v142 v143 0 _ _ _ hP hS (lv_sub hl [0, 1, 2, 3, 4, 5, 6] rfl) hm
      have L_594 : ∀ (s150 : St) (v145 : Int32) (v146 : Int64) (v147 : Int32) (v148 : Int32) (v149 : Int32) (H : Heap) (locs : List Loc) (ls : Array Slot), va_P D vwCl (wC y a s150) H → va_S (AC a 37 s.heap.size) s.heap H locs → lv_has ls 20 [(0, .ref z), (1, .ref (a 0)), (2, .int v145), (3, .long v146), (5, .int v147), (6, .int v148), (7, .int v149)] → mL_law_594 xs L kh127 s150 v145 v146 v147 v148 v149 = some () → W p l e room_1 s m #[Value.ref z] below meth c H locs 37 5296 (lw_Z below #[Value.ref z] s) (F0 m 594 ls []) := by
        intro s150 v145 v146 v147 v148 v149 H locs ls hP hS hl hm
        unfold mL_law_594 at hm
        refine lv_aload_n hx hb dL_law_594 rfl (lv_at hl 1 rfl) ?_
        refine lv_iconst (v := 3) hx hb dL_law_595 (by decide) ?_
        obtain ⟨⟨r151, s153⟩, h152, hm⟩ := ok_bind hm
        refine calV_i (As := [.int 3]) (rest := []) ⟨hx, hb, hml, hown, hts⟩ (kX7_count l D y a t hI _ s150 s153 3 r151 h152) (cwV 1 hts (gAV aM_L_45 aI_X7_count aS_X7_count aN_X7 aC_X7_count) rfl rfl rfl eX7_count ⟨Nat.le_of_ble_eq_true rfl, Nat.le_of_ble_eq_true rfl⟩) (preV_W (ci := 7) (q := (RX7, TX7, 6)) hK hP hF hS rfl (wC_0 y a s150)) rfl hl.1 rfl (Nat.le_of_ble_eq_true rfl) dL_law_596 ⟨Nat.le_of_ble_eq_true rfl, Nat.le_of_ble_eq_true rfl⟩ hS (AC_le hS.1) (fun H locs hP hS hk1 => ?_)
        refine lv_if_le (tgt := 629) hx hb dL_law_599 (by decide) (fun c154 => ?_) (fun c154 => ?_)
        · have hm := (if_pos c154).symm.trans hm
          exact L_629 s153 v145 v146 v147 v148 v149 _ _ _ hP hS (lv_sub hl [0, 1, 2, 3, 4, 5, 6] rfl) hm
        · have hm := (if_neg c154).symm.trans hm
          refine lv_aload_n hx hb dL_law_602 rfl (lv_at hl 1 rfl) ?_
          refine lv_iconst (v := 5) hx hb dL_law_603 (by decide) ?_
          obtain ⟨⟨r155, s157⟩, h156, hm⟩ := ok_bind hm
          refine calV_i (As := [.int 5]) (rest := []) ⟨hx, hb, hml, hown, hts⟩ (kX7_count l D y a t hI _ s153 s157 5 r155 h156) (cwV 1 hts (gAV aM_L_45 aI_X7_count aS_X7_count aN_X7 aC_X7_count) rfl rfl rfl eX7_count ⟨Nat.le_of_ble_eq_true rfl, Nat.le_of_ble_eq_true rfl⟩) (preV_W (ci := 7) (q := (RX7, TX7, 6)) hK hP hF hS rfl (wC_0 y a s153)) rfl hl.1 rfl (Nat.le_of_ble_eq_true rfl) dL_law_604 ⟨Nat.le_of_ble_eq_true rfl, Nat.le_of_ble_eq_true rfl⟩ hS (AC_le hS.1) (fun H locs hP hS hk1 => ?_)
          refine lv_if_ne (tgt := 629) hx hb dL_law_607 (by decide) (fun c158 => ?_) (fun c158 => ?_)
          · have hm := (if_neg c158).symm.trans hm
            exact L_629 s157 v145 v146 v147 v148 v149 _ _ _ hP hS (lv_sub hl [0, 1, 2, 3, 4, 5, 6] rfl) hm
          · have hm := (if_pos c158).symm.trans hm
            refine lv_aload_n hx hb dL_law_610 rfl (lv_at hl 1 rfl) ?_
            refine lv_aload_n hx hb dL_law_611 rfl (lv_at hl 1 rfl) ?_
            refine lv_iconst (v := 3) hx hb dL_law_612 (by decide) ?_
            obtain ⟨⟨r159, s161⟩, h160, hm⟩ := ok_bind hm
            refine calV_i (As := [.int 3]) (rest := [.ref (a 0)]) ⟨hx, hb, hml, hown, hts⟩ (kX7_count l D y a t hI _ s157 s161 3 r159 h160) (cwV 1 hts (gAV aM_L_45 aI_X7_count aS_X7_count aN_X7 aC_X7_count) rfl rfl rfl eX7_count ⟨Nat.le_of_ble_eq_true rfl, Nat.le_of_ble_eq_true rfl⟩) (preV_W (ci := 7) (q := (RX7, TX7, 6)) hK hP hF hS rfl (wC_0 y a s157)) rfl hl.1 rfl (Nat.le_of_ble_eq_true rfl) dL_law_613 ⟨Nat.le_of_ble_eq_true rfl, Nat.le_of_ble_eq_true rfl⟩ hS (AC_le hS.1) (fun H locs hP hS hk1 => ?_)
            refine lv_iconst (v := 1) hx hb dL_law_616 (by decide) ?_
            refine lv_isub hx hb dL_law_617 ?_
            refine lv_iconst (v := 5) hx hb dL_law_618 (by decide) ?_
            obtain ⟨⟨r162, s164⟩, h163, hm⟩ := ok_bind hm
            refine calV_i (As := [.int (r159 - 1), .int 5]) (rest := []) ⟨hx, hb, hml, hown, hts⟩ (kX7_line l D y a t hI _ s161 s164 (r159 - 1) 5 r162 h163) (cwV 2 hts (gAV aM_L_69 aI_X7_line aS_X7_line aN_X7 aC_X7_line) rfl rfl rfl eX7_line ⟨Nat.le_of_ble_eq_true rfl, Nat.le_of_ble_eq_true rfl⟩) (preV_W (ci := 7) (q := (RX7, TX7, 6)) hK hP hF hS rfl (wC_0 y a s161)) rfl hl.1 rfl (Nat.le_of_ble_eq_true rfl) dL_law_619 ⟨Nat.le_of_ble_eq_true rfl, Nat.le_of_ble_eq_true rfl⟩ hS (AC_le hS.1) (fun H locs hP hS hk1 => ?_)
            refine lv_if_ge (tgt := 629) hx hb dL_law_622 (by decide) (fun c165 => ?_) (fun c165 => ?_)
            · have hm := (if_pos c165).symm.trans hm
              exact L_629 s164 v145 v146 v147 v148 v149 _ _ _ hP hS (lv_sub hl [0, 1, 2, 3, 4, 5, 6] rfl) hm
            · have hm := (if_neg c165).symm.trans hm
              refine lv_iconst (v := 1) hx hb dL_law_625 (by decide) ?_
              refine lv_goto (tgt := 630) hx hb dL_law_626 (by decide) ?_
              exact L_630 s164 v145 v146 v147 v148 v149 1 _ _ _ hP hS (lv_sub hl [0, 1, 2, 3, 4, 5, 6] rfl) hm
      have L_553 : ∀ (s171 : St) (v166 : Int32) (v167 : Int64) (v168 : Int32) (v169 : Int32) (v170 : Int32) (H : Heap) (locs : List Loc) (ls : Array Slot), va_P D vwCl (wC y a s171) H → va_S (AC a 37 s.heap.size) s.heap H locs → lv_has ls 20 [(0, .ref z), (1, .ref (a 0)), (2, .int v166), (3, .long v167), (5, .int v168), (6, .int v169), (7, .int v170)] → mL_law_553 xs L kh127 s171 v166 v167 v168 v169 v170 = some () → W p l e room_1 s m #[Value.ref z] below meth c H locs 37 5296 (lw_Z below #[Value.ref z] s) (F0 m 553 ls []) := by
        intro s171 v166 v167 v168 v169 v170 H locs ls hP hS hl hm
        unfold mL_law_553 at hm
        refine lv_aload_n hx hb dL_law_553 rfl (lv_at hl 1 rfl) ?_
        refine lv_bipush (v := 8) hx hb dL_law_554 (by decide) ?_
        obtain ⟨⟨r172, s174⟩, h173, hm⟩ := ok_bind hm
        refine calV_i (As := [.int 8]) (rest := []) ⟨hx, hb, hml, hown, hts⟩ (kX7_count l D y a t hI _ s171 s174 8 r172 h173) (cwV 1 hts (gAV aM_L_45 aI_X7_count aS_X7_count aN_X7 aC_X7_count) rfl rfl rfl eX7_count ⟨Nat.le_of_ble_eq_true rfl, Nat.le_of_ble_eq_true rfl⟩) (preV_W (ci := 7) (q := (RX7, TX7, 6)) hK hP hF hS rfl (wC_0 y a s171)) rfl hl.1 rfl (Nat.le_of_ble_eq_true rfl) dL_law_556 ⟨Nat.le_of_ble_eq_true rfl, Nat.le_of_ble_eq_true rfl⟩ hS (AC_le hS.1) (fun H locs hP hS hk1 => ?_)
        refine lv_aload_n hx hb dL_law_559 rfl (lv_at hl 1 rfl) ?_
        refine lv_iconst (v := 3) hx hb dL_law_560 (by decide) ?_
        obtain ⟨⟨r175, s177⟩, h176, hm⟩ := ok_bind hm
        refine calV_i (As := [.int 3]) (rest := [.int r172]) ⟨hx, hb, hml, hown, hts⟩ (kX7_count l D y a t hI _ s174 s177 3 r175 h176) (cwV 1 hts (gAV aM_L_45 aI_X7_count aS_X7_count aN_X7 aC_X7_count) rfl rfl rfl eX7_count ⟨Nat.le_of_ble_eq_true rfl, Nat.le_of_ble_eq_true rfl⟩) (preV_W (ci := 7) (q := (RX7, TX7, 6)) hK hP hF hS rfl (wC_0 y a s174)) rfl hl.1 rfl (Nat.le_of_ble_eq_true rfl) dL_law_561 ⟨Nat.le_of_ble_eq_true rfl, Nat.le_of_ble_eq_true rfl⟩ hS (AC_le hS.1) (fun H locs hP hS hk1 => ?_)
        refine lv_icmp_gt (tgt := 592) hx hb dL_law_564 (by decide) (fun c178 => ?_) (fun c178 => ?_)
        · have hm := (if_pos c178).symm.trans hm
          refine lv_iconst (v := 0) hx hb dL_law_592 (by decide) ?_
          cases hm
        · have hm := (if_neg c178).symm.trans hm
          refine lv_aload_n hx hb dL_law_567 rfl (lv_at hl 1 rfl) ?_
          refine lv_iconst (v := 3) hx hb dL_law_568 (by decide) ?_
          obtain ⟨⟨r179, s181⟩, h180, hm⟩ := ok_bind hm
          refine calV_i (As := [.int 3]) (rest := []) ⟨hx, hb, hml, hown, hts⟩ (kX7_count l D y a t hI _ s177 s181 3 r179 h180) (cwV 1 hts (gAV aM_L_45 aI_X7_count aS_X7_count aN_X7 aC_X7_count) rfl rfl rfl eX7_count ⟨Nat.le_of_ble_eq_true rfl, Nat.le_of_ble_eq_true rfl⟩) (preV_W (ci := 7) (q := (RX7, TX7, 6)) hK hP hF hS rfl (wC_0 y a s177)) rfl hl.1 rfl (Nat.le_of_ble_eq_true rfl) dL_law_569 ⟨Nat.le_of_ble_eq_true rfl, Nat.le_of_ble_eq_true rfl⟩ hS (AC_le hS.1) (fun H locs hP hS hk1 => ?_)
          refine lv_if_le (tgt := 594) hx hb dL_law_572 (by decide) (fun c182 => ?_) (fun c182 => ?_)
          · have hm := (if_pos c182).symm.trans hm
            exact L_594 s181 v166 v167 v168 v169 v170 _ _ _ hP hS (lv_sub hl [0, 1, 2, 3, 4, 5, 6] rfl) hm
          · have hm := (if_neg c182).symm.trans hm
            refine lv_aload_n hx hb dL_law_575 rfl (lv_at hl 1 rfl) ?_
            refine lv_aload_n hx hb dL_law_576 rfl (lv_at hl 1 rfl) ?_
            refine lv_iconst (v := 3) hx hb dL_law_577 (by decide) ?_
            obtain ⟨⟨r183, s185⟩, h184, hm⟩ := ok_bind hm
            refine calV_i (As := [.int 3]) (rest := [.ref (a 0)]) ⟨hx, hb, hml, hown, hts⟩ (kX7_count l D y a t hI _ s181 s185 3 r183 h184) (cwV 1 hts (gAV aM_L_45 aI_X7_count aS_X7_count aN_X7 aC_X7_count) rfl rfl rfl eX7_count ⟨Nat.le_of_ble_eq_true rfl, Nat.le_of_ble_eq_true rfl⟩) (preV_W (ci := 7) (q := (RX7, TX7, 6)) hK hP hF hS rfl (wC_0 y a s181)) rfl hl.1 rfl (Nat.le_of_ble_eq_true rfl) dL_law_578 ⟨Nat.le_of_ble_eq_true rfl, Nat.le_of_ble_eq_true rfl⟩ hS (AC_le hS.1) (fun H locs hP hS hk1 => ?_)
            refine lv_iconst (v := 1) hx hb dL_law_581 (by decide) ?_
            refine lv_isub hx hb dL_law_582 ?_
            refine lv_bipush (v := 7) hx hb dL_law_583 (by decide) ?_
            obtain ⟨⟨r186, s188⟩, h187, hm⟩ := ok_bind hm
            refine calV_i (As := [.int (r183 - 1), .int 7]) (rest := []) ⟨hx, hb, hml, hown, hts⟩ (kX7_line l D y a t hI _ s185 s188 (r183 - 1) 7 r186 h187) (cwV 2 hts (gAV aM_L_69 aI_X7_line aS_X7_line aN_X7 aC_X7_line) rfl rfl rfl eX7_line ⟨Nat.le_of_ble_eq_true rfl, Nat.le_of_ble_eq_true rfl⟩) (preV_W (ci := 7) (q := (RX7, TX7, 6)) hK hP hF hS rfl (wC_0 y a s185)) rfl hl.1 rfl (Nat.le_of_ble_eq_true rfl) dL_law_585 ⟨Nat.le_of_ble_eq_true rfl, Nat.le_of_ble_eq_true rfl⟩ hS (AC_le hS.1) (fun H locs hP hS hk1 => ?_)
            refine lv_iconst (v := 1) hx hb dL_law_588 (by decide) ?_
            refine lv_icmp_eq (tgt := 594) hx hb dL_law_589 (by decide) (fun c189 => ?_) (fun c189 => ?_)
            · have hm := (if_pos c189).symm.trans hm
              exact L_594 s188 v166 v167 v168 v169 v170 _ _ _ hP hS (lv_sub hl [0, 1, 2, 3, 4, 5, 6] rfl) hm
            · have hm := (if_neg c189).symm.trans hm
              refine lv_iconst (v := 0) hx hb dL_law_592 (by decide) ?_
              cases hm
      have L_487 : ∀ (n : Nat) (s204 : St) (v198 : Int32) (v199 : Int64) (v200 : Int32) (v201 : Int32) (v202 : Int32) (v203 : Int32) (H : Heap) (locs : List Loc) (ls : Array Slot), va_P D vwCl (wC y a s204) H → va_S (AC a 37 s.heap.size) s.heap H locs → lv_has ls 20 [(0, .ref z), (1, .ref (a 0)), (2, .int v198), (3, .long v199), (5, .int v200), (6, .int v201), (7, .int v202), (14, .int v203)] → mL_law_487 xs L kh127 n s204 v198 v199 v200 v201 v202 v203 = some () → W p l e room_1 s m #[Value.ref z] below meth c H locs 37 5296 (lw_Z below #[Value.ref z] s) (F0 m 487 ls []) := by
        intro n
        induction n with
        | zero =>
          intro s204 v198 v199 v200 v201 v202 v203 H locs ls hP hS hl hm
          exact absurd (show (none : Option Unit) = some () from hm) (by intro h; cases h)
        | succ n ih487 =>
          obtain ⟨kh487, ekh487⟩ : ∃ z, z = mL_law_487 xs L kh127 n := ⟨_, rfl⟩
          have ih487 : ∀ (s204 : St) (v198 : Int32) (v199 : Int64) (v200 : Int32) (v201 : Int32) (v202 : Int32) (v203 : Int32) (H : Heap) (locs : List Loc) (ls : Array Slot), va_P D vwCl (wC y a s204) H → va_S (AC a 37 s.heap.size) s.heap H locs → lv_has ls 20 [(0, .ref z), (1, .ref (a 0)), (2, .int v198), (3, .long v199), (5, .int v200), (6, .int v201), (7, .int v202), (14, .int v203)] → kh487 s204 v198 v199 v200 v201 v202 v203 = some () → W p l e room_1 s m #[Value.ref z] below meth c H locs 37 5296 (lw_Z below #[Value.ref z] s) (F0 m 487 ls []) := by rw [ekh487]; exact ih487
          have L_547 : ∀ (s196 : St) (v190 : Int32) (v191 : Int64) (v192 : Int32) (v193 : Int32) (v194 : Int32) (v195 : Int32) (H : Heap) (locs : List Loc) (ls : Array Slot), va_P D vwCl (wC y a s196) H → va_S (AC a 37 s.heap.size) s.heap H locs → lv_has ls 20 [(0, .ref z), (1, .ref (a 0)), (2, .int v190), (3, .long v191), (5, .int v192), (6, .int v193), (7, .int v194), (14, .int v195)] → mL_law_547 xs L kh127 kh487 s196 v190 v191 v192 v193 v194 v195 = some () → W p l e room_1 s m #[Value.ref z] below meth c H locs 37 5296 (lw_Z below #[Value.ref z] s) (F0 m 547 ls []) := by
            intro s196 v190 v191 v192 v193 v194 v195 H locs ls hP hS hl hm
            unfold mL_law_547 at hm
            obtain ⟨x197, ex197⟩ : ∃ z : Int32, z = v195 + 1 := ⟨_, rfl⟩
            have hm := bnd_x ex197 hm
            refine lv_iinc (v := x197) (lv' := [(14, .int x197), (0, .ref z), (1, .ref (a 0)), (2, .int v190), (3, .long v191), (5, .int v192), (6, .int v193), (7, .int v194)]) hx hb dL_law_547 hl (k := 7) rfl (by rw [ex197]; rfl) (by decide) rfl (fun ls hl => ?_)
            refine lv_goto (tgt := 487) hx hb dL_law_550 (by decide) ?_
            exact ih487 s196 v190 v191 v192 v193 v194 x197 _ _ _ hP hS (lv_sub hl [1, 2, 3, 4, 5, 6, 7, 0] rfl) hm
          intro s204 v198 v199 v200 v201 v202 v203 H locs ls hP hS hl hm
          have hm : bL_law_487 xs L kh127 (mL_law_487 xs L kh127 n) s204 v198 v199 v200 v201 v202 v203 = some () := hm
          rw [← ekh487] at hm
          unfold bL_law_487 at hm
          refine lv_iload hx hb dL_law_487 (lv_at hl 7 rfl) ?_
          refine lv_aload_n hx hb dL_law_489 rfl (lv_at hl 1 rfl) ?_
          refine lv_iconst (v := 3) hx hb dL_law_490 (by decide) ?_
          obtain ⟨⟨r205, s207⟩, h206, hm⟩ := ok_bind hm
          refine calV_i (As := [.int 3]) (rest := [.int v203]) ⟨hx, hb, hml, hown, hts⟩ (kX7_count l D y a t hI _ s204 s207 3 r205 h206) (cwV 1 hts (gAV aM_L_45 aI_X7_count aS_X7_count aN_X7 aC_X7_count) rfl rfl rfl eX7_count ⟨Nat.le_of_ble_eq_true rfl, Nat.le_of_ble_eq_true rfl⟩) (preV_W (ci := 7) (q := (RX7, TX7, 6)) hK hP hF hS rfl (wC_0 y a s204)) rfl hl.1 rfl (Nat.le_of_ble_eq_true rfl) dL_law_491 ⟨Nat.le_of_ble_eq_true rfl, Nat.le_of_ble_eq_true rfl⟩ hS (AC_le hS.1) (fun H locs hP hS hk1 => ?_)
          refine lv_icmp_ge (tgt := 553) hx hb dL_law_494 (by decide) (fun c208 => ?_) (fun c208 => ?_)
          · have hm := (if_pos c208).symm.trans hm
            exact L_553 s207 v198 v199 v200 v201 v202 _ _ _ hP hS (lv_sub hl [0, 1, 2, 3, 4, 5, 6] rfl) hm
          · have hm := (if_neg c208).symm.trans hm
            refine lv_aload_n hx hb dL_law_497 rfl (lv_at hl 1 rfl) ?_
            refine lv_iload hx hb dL_law_498 (lv_at hl 7 rfl) ?_
            obtain ⟨r209, h210, hm⟩ := ok_bind hm
            refine calV_i (As := [.int v203]) (rest := []) ⟨hx, hb, hml, hown, hts⟩ (kX7_fails l D y a t hI _ s207 v203 r209 h210) (cwV 1 hts (gAV aM_L_75 aI_X7_fails aS_X7_fails aN_X7 aC_X7_fails) rfl rfl rfl eX7_fails ⟨Nat.le_of_ble_eq_true rfl, Nat.le_of_ble_eq_true rfl⟩) (preV_W (ci := 7) (q := (RX7, TX7, 6)) hK hP hF hS rfl (wC_0 y a s207)) rfl hl.1 rfl (Nat.le_of_ble_eq_true rfl) dL_law_500 ⟨Nat.le_of_ble_eq_true rfl, Nat.le_of_ble_eq_true rfl⟩ hS (AC_le hS.1) (fun H locs hP hS hk1 => ?_)
            refine lv_if_eq (tgt := 508) hx hb dL_law_503 (by decide) (fun c211 => ?_) (fun c211 => ?_)
            · have hm := (if_pos c211).symm.trans hm
              refine lv_aload_n hx hb dL_law_508 rfl (lv_at hl 1 rfl) ?_
              refine lv_bipush (v := 6) hx hb dL_law_509 (by decide) ?_
              obtain ⟨⟨r212, s214⟩, h213, hm⟩ := ok_bind hm
              refine calV_i (As := [.int 6]) (rest := []) ⟨hx, hb, hml, hown, hts⟩ (kX7_count l D y a t hI _ s207 s214 6 r212 h213) (cwV 1 hts (gAV aM_L_45 aI_X7_count aS_X7_count aN_X7 aC_X7_count) rfl rfl rfl eX7_count ⟨Nat.le_of_ble_eq_true rfl, Nat.le_of_ble_eq_true rfl⟩) (preV_W (ci := 7) (q := (RX7, TX7, 6)) hK hP hF hS rfl (wC_0 y a s207)) rfl hl.1 rfl (Nat.le_of_ble_eq_true rfl) dL_law_511 ⟨Nat.le_of_ble_eq_true rfl, Nat.le_of_ble_eq_true rfl⟩ hS (AC_le hS.1) (fun H locs hP hS hk1 => ?_)
              refine lv_if_ne (tgt := 547) hx hb dL_law_514 (by decide) (fun c215 => ?_) (fun c215 => ?_)
              · have hm := (if_neg c215).symm.trans hm
                exact L_547 s214 v198 v199 v200 v201 v202 v203 _ _ _ hP hS (lv_sub hl [0, 1, 2, 3, 4, 5, 6, 7] rfl) hm
              · have hm := (if_pos c215).symm.trans hm
                refine lv_aload_n hx hb dL_law_517 rfl (lv_at hl 1 rfl) ?_
                refine lv_iload hx hb dL_law_518 (lv_at hl 7 rfl) ?_
                refine lv_iconst (v := 5) hx hb dL_law_520 (by decide) ?_
                obtain ⟨⟨r216, s218⟩, h217, hm⟩ := ok_bind hm
                refine calV_i (As := [.int v203, .int 5]) (rest := []) ⟨hx, hb, hml, hown, hts⟩ (kX7_line l D y a t hI _ s214 s218 v203 5 r216 h217) (cwV 2 hts (gAV aM_L_69 aI_X7_line aS_X7_line aN_X7 aC_X7_line) rfl rfl rfl eX7_line ⟨Nat.le_of_ble_eq_true rfl, Nat.le_of_ble_eq_true rfl⟩) (preV_W (ci := 7) (q := (RX7, TX7, 6)) hK hP hF hS rfl (wC_0 y a s214)) rfl hl.1 rfl (Nat.le_of_ble_eq_true rfl) dL_law_521 ⟨Nat.le_of_ble_eq_true rfl, Nat.le_of_ble_eq_true rfl⟩ hS (AC_le hS.1) (fun H locs hP hS hk1 => ?_)
                refine lv_if_ge (tgt := 547) hx hb dL_law_524 (by decide) (fun c219 => ?_) (fun c219 => ?_)
                · have hm := (if_pos c219).symm.trans hm
                  exact L_547 s218 v198 v199 v200 v201 v202 v203 _ _ _ hP hS (lv_sub hl [0, 1, 2, 3, 4, 5, 6, 7] rfl) hm
                · have hm := (if_neg c219).symm.trans hm
                  refine lv_aload_n hx hb dL_law_527 rfl (lv_at hl 1 rfl) ?_
                  refine lv_aload_n hx hb dL_law_528 rfl (lv_at hl 1 rfl) ?_
                  refine lv_iload hx hb dL_law_529 (lv_at hl 7 rfl) ?_
                  refine lv_iconst (v := 0) hx hb dL_law_531 (by decide) ?_
                  obtain ⟨⟨r220, s222⟩, h221, hm⟩ := ok_bind hm
                  refine calV_i (As := [.int v203, .int 0]) (rest := [.ref (a 0)]) ⟨hx, hb, hml, hown, hts⟩ (kX7_line l D y a t hI _ s218 s222 v203 0 r220 h221) (cwV 2 hts (gAV aM_L_69 aI_X7_line aS_X7_line aN_X7 aC_X7_line) rfl rfl rfl eX7_line ⟨Nat.le_of_ble_eq_true rfl, Nat.le_of_ble_eq_true rfl⟩) (preV_W (ci := 7) (q := (RX7, TX7, 6)) hK hP hF hS rfl (wC_0 y a s218)) rfl hl.1 rfl (Nat.le_of_ble_eq_true rfl) dL_law_532 ⟨Nat.le_of_ble_eq_true rfl, Nat.le_of_ble_eq_true rfl⟩ hS (AC_le hS.1) (fun H locs hP hS hk1 => ?_)
                  refine lv_iconst (v := 4) hx hb dL_law_535 (by decide) ?_
                  obtain ⟨r223, h224, hm⟩ := ok_bind hm
                  refine calV_i (As := [.int r220, .int 4]) (rest := []) ⟨hx, hb, hml, hown, hts⟩ (kX7_formula l D y a t hI _ s222 r220 4 r223 h224) (cwV 2 hts (gAV aM_L_78 aI_X7_formula aS_X7_formula aN_X7 aC_X7_formula) rfl rfl rfl eX7_formula ⟨Nat.le_of_ble_eq_true rfl, Nat.le_of_ble_eq_true rfl⟩) (preV_W (ci := 7) (q := (RX7, TX7, 6)) hK hP hF hS rfl (wC_0 y a s222)) rfl hl.1 rfl (Nat.le_of_ble_eq_true rfl) dL_law_536 ⟨Nat.le_of_ble_eq_true rfl, Nat.le_of_ble_eq_true rfl⟩ hS (AC_le hS.1) (fun H locs hP hS hk1 => ?_)
                  refine lv_sipush (v := 256) hx hb dL_law_539 (by decide) ?_
                  refine lv_icmp_eq (tgt := 547) hx hb dL_law_542 (by decide) (fun c225 => ?_) (fun c225 => ?_)
                  · have hm := (if_pos c225).symm.trans hm
                    exact L_547 s222 v198 v199 v200 v201 v202 v203 _ _ _ hP hS (lv_sub hl [0, 1, 2, 3, 4, 5, 6, 7] rfl) hm
                  · have hm := (if_neg c225).symm.trans hm
                    refine lv_iconst (v := 0) hx hb dL_law_545 (by decide) ?_
                    cases hm
            · have hm := (if_neg c211).symm.trans hm
              refine lv_iconst (v := 0) hx hb dL_law_506 (by decide) ?_
              cases hm
      have L_484 : ∀ (s231 : St) (v226 : Int32) (v227 : Int64) (v228 : Int32) (v229 : Int32) (v230 : Int32) (H : Heap) (locs : List Loc) (ls : Array Slot), va_P D vwCl (wC y a s231) H → va_S (AC a 37 s.heap.size) s.heap H locs → lv_has ls 20 [(0, .ref z), (1, .ref (a 0)), (2, .int v226), (3, .long v227), (5, .int v228), (6, .int v229), (7, .int v230)] → mL_law_484 xs L kh127 s231 v226 v227 v228 v229 v230 = some () → W p l e room_1 s m #[Value.ref z] below meth c H locs 37 5296 (lw_Z below #[Value.ref z] s) (F0 m 484 ls []) := by
        intro s231 v226 v227 v228 v229 v230 H locs ls hP hS hl hm
        unfold mL_law_484 at hm
        refine lv_iconst (v := 0) hx hb dL_law_484 (by decide) ?_
        refine lv_istore (lv' := [(14, .int 0), (0, .ref z), (1, .ref (a 0)), (2, .int v226), (3, .long v227), (5, .int v228), (6, .int v229), (7, .int v230)]) hx hb dL_law_485 hl (by decide) rfl (fun ls hl => ?_)
        exact L_487 NF s231 v226 v227 v228 v229 v230 0 _ _ _ hP hS (lv_sub hl [1, 2, 3, 4, 5, 6, 7, 0] rfl) hm
      have L_450 : ∀ (s239 : St) (v232 : Int32) (v233 : Int64) (v234 : Int32) (v235 : Int32) (v236 : Int32) (v237 : Int64) (v238 : Int32) (H : Heap) (locs : List Loc) (ls : Array Slot), va_P D vwCl (wC y a s239) H → va_S (AC a 37 s.heap.size) s.heap H locs → lv_has ls 20 [(0, .ref z), (1, .ref (a 0)), (2, .int v232), (3, .long v233), (5, .int v234), (6, .int v235), (7, .int v236), (10, .long v237), (13, .int v238)] → mL_law_450 xs L kh127 s239 v232 v233 v234 v235 v236 v237 v238 = some () → W p l e room_1 s m #[Value.ref z] below meth c H locs 37 5296 (lw_Z below #[Value.ref z] s) (F0 m 450 ls []) := by
        intro s239 v232 v233 v234 v235 v236 v237 v238 H locs ls hP hS hl hm
        unfold mL_law_450 at hm
        refine lv_iload hx hb dL_law_450 (lv_at hl 8 rfl) ?_
        refine lv_if_eq (tgt := 484) hx hb dL_law_452 (by decide) (fun c240 => ?_) (fun c240 => ?_)
        · have hm := (if_pos c240).symm.trans hm
          exact L_484 s239 v232 v233 v234 v235 v236 _ _ _ hP hS (lv_sub hl [0, 1, 2, 3, 4, 5, 6] rfl) hm
        · have hm := (if_neg c240).symm.trans hm
          refine lv_iload hx hb dL_law_455 (lv_at hl 6 rfl) ?_
          refine lv_bipush (v := 6) hx hb dL_law_457 (by decide) ?_
          refine lv_ishr hx hb dL_law_459 ?_
          refine lv_iconst (v := 3) hx hb dL_law_460 (by decide) ?_
          obtain ⟨r241, h242, hm⟩ := ok_bind hm
          refine calS_i (As := [.int (v236 >>> (6 &&& 31)), .int 3]) (rest := []) ⟨hx, hb, hml, hown, hts⟩ (kL_below l D y a t hI _ s239 (v236 >>> (6 &&& 31)) 3 r241 h242) (va_cwS 2 hts (gAS aM_L_37 aT_L_below aN_L aC_L_below) rfl rfl rfl eL_below ⟨Nat.le_of_ble_eq_true rfl, Nat.le_of_ble_eq_true rfl⟩) (preS_W hK hP hF hS) rfl hl.1 rfl (Nat.le_of_ble_eq_true rfl) dL_law_461 ⟨Nat.le_of_ble_eq_true rfl, Nat.le_of_ble_eq_true rfl⟩ hS (AC_le hS.1) (fun H locs hP hS hk1 => ?_)
          refine lv_if_ne (tgt := 484) hx hb dL_law_464 (by decide) (fun c243 => ?_) (fun c243 => ?_)
          · have hm := (if_neg c243).symm.trans hm
            exact L_484 s239 v232 v233 v234 v235 v236 _ _ _ hP hS (lv_sub hl [0, 1, 2, 3, 4, 5, 6] rfl) hm
          · have hm := (if_pos c243).symm.trans hm
            refine lv_aload_n hx hb dL_law_467 rfl (lv_at hl 1 rfl) ?_
            obtain ⟨⟨r244, s246⟩, h245, hm⟩ := ok_bind hm
            refine calV_i (As := []) (rest := []) ⟨hx, hb, hml, hown, hts⟩ (kX7_undo l D y a t hI _ s239 s246 r244 h245) (cwV 0 hts (gAV aM_L_72 aI_X7_undo aS_X7_undo aN_X7 aC_X7_undo) rfl rfl rfl eX7_undo ⟨Nat.le_of_ble_eq_true rfl, Nat.le_of_ble_eq_true rfl⟩) (preV_W (ci := 7) (q := (RX7, TX7, 6)) hK hP hF hS rfl (wC_0 y a s239)) rfl hl.1 rfl (Nat.le_of_ble_eq_true rfl) dL_law_468 ⟨Nat.le_of_ble_eq_true rfl, Nat.le_of_ble_eq_true rfl⟩ hS (AC_le hS.1) (fun H locs hP hS hk1 => ?_)
            refine lv_pop hx hb dL_law_471 rfl ?_
            refine lv_aload_n hx hb dL_law_472 rfl (lv_at hl 1 rfl) ?_
            obtain ⟨⟨r247, s249⟩, h248, hm⟩ := ok_bind hm
            refine calV_l (As := []) (rest := []) ⟨hx, hb, hml, hown, hts⟩ (kX7_digest l D y a t hI _ s246 s249 r247 h248) (cwV 0 hts (gAV aM_L_49 aI_X7_digest aS_X7_digest aN_X7 aC_X7_digest) rfl rfl rfl eX7_digest ⟨Nat.le_of_ble_eq_true rfl, Nat.le_of_ble_eq_true rfl⟩) (preV_W (ci := 7) (q := (RX7, TX7, 6)) hK hP hF hS rfl (wC_0 y a s246)) rfl hl.1 rfl (Nat.le_of_ble_eq_true rfl) dL_law_473 ⟨Nat.le_of_ble_eq_true rfl, Nat.le_of_ble_eq_true rfl⟩ hS (AC_le hS.1) (fun H locs hP hS hk1 => ?_)
            refine lv_lload hx hb dL_law_476 (lv_at hl 7 rfl) ?_
            refine W.lcmp hx hb dL_law_478 ?_
            refine lv_if_eq (tgt := 884) hx hb dL_law_479 (by decide) (fun c250 => ?_) (fun c250 => ?_)
            · have hm := (if_pos c250).symm.trans hm
              exact L_884 s249 v232 v233 v234 v235 _ _ _ hP hS (lv_sub hl [0, 1, 2, 3, 4, 5] rfl) hm
            · have hm := (if_neg c250).symm.trans hm
              refine lv_iconst (v := 0) hx hb dL_law_482 (by decide) ?_
              cases hm
      have L_433 : ∀ (s258 : St) (v251 : Int32) (v252 : Int64) (v253 : Int32) (v254 : Int32) (v255 : Int32) (v256 : Int64) (v257 : Int32) (H : Heap) (locs : List Loc) (ls : Array Slot), va_P D vwCl (wC y a s258) H → va_S (AC a 37 s.heap.size) s.heap H locs → lv_has ls 20 [(0, .ref z), (1, .ref (a 0)), (2, .int v251), (3, .long v252), (5, .int v253), (6, .int v254), (7, .int v255), (10, .long v256), (13, .int v257)] → mL_law_433 xs L kh127 s258 v251 v252 v253 v254 v255 v256 v257 = some () → W p l e room_1 s m #[Value.ref z] below meth c H locs 37 5296 (lw_Z below #[Value.ref z] s) (F0 m 433 ls []) := by
        intro s258 v251 v252 v253 v254 v255 v256 v257 H locs ls hP hS hl hm
        unfold mL_law_433 at hm
        refine lv_iload hx hb dL_law_433 (lv_at hl 8 rfl) ?_
        refine lv_if_ne (tgt := 450) hx hb dL_law_435 (by decide) (fun c259 => ?_) (fun c259 => ?_)
        · have hm := (if_neg c259).symm.trans hm
          exact L_450 s258 v251 v252 v253 v254 v255 v256 v257 _ _ _ hP hS (lv_sub hl [0, 1, 2, 3, 4, 5, 6, 7, 8] rfl) hm
        · have hm := (if_pos c259).symm.trans hm
          refine lv_aload_n hx hb dL_law_438 rfl (lv_at hl 1 rfl) ?_
          obtain ⟨⟨r260, s262⟩, h261, hm⟩ := ok_bind hm
          refine calV_l (As := []) (rest := []) ⟨hx, hb, hml, hown, hts⟩ (kX7_digest l D y a t hI _ s258 s262 r260 h261) (cwV 0 hts (gAV aM_L_49 aI_X7_digest aS_X7_digest aN_X7 aC_X7_digest) rfl rfl rfl eX7_digest ⟨Nat.le_of_ble_eq_true rfl, Nat.le_of_ble_eq_true rfl⟩) (preV_W (ci := 7) (q := (RX7, TX7, 6)) hK hP hF hS rfl (wC_0 y a s258)) rfl hl.1 rfl (Nat.le_of_ble_eq_true rfl) dL_law_439 ⟨Nat.le_of_ble_eq_true rfl, Nat.le_of_ble_eq_true rfl⟩ hS (AC_le hS.1) (fun H locs hP hS hk1 => ?_)
          refine lv_lload hx hb dL_law_442 (lv_at hl 7 rfl) ?_
          refine W.lcmp hx hb dL_law_444 ?_
          refine lv_if_eq (tgt := 450) hx hb dL_law_445 (by decide) (fun c263 => ?_) (fun c263 => ?_)
          · have hm := (if_pos c263).symm.trans hm
            exact L_450 s262 v251 v252 v253 v254 v255 v256 v257 _ _ _ hP hS (lv_sub hl [0, 1, 2, 3, 4, 5, 6, 7, 8] rfl) hm
          · have hm := (if_neg c263).symm.trans hm
            refine lv_iconst (v := 0) hx hb dL_law_448 (by decide) ?_
            cases hm
      have L_431 : ∀ (s271 : St) (v264 : Int32) (v265 : Int64) (v266 : Int32) (v267 : Int32) (v268 : Int32) (v269 : Int64) (v270 : Int32) (H : Heap) (locs : List Loc) (ls : Array Slot), va_P D vwCl (wC y a s271) H → va_S (AC a 37 s.heap.size) s.heap H locs → lv_has ls 20 [(0, .ref z), (1, .ref (a 0)), (2, .int v264), (3, .long v265), (5, .int v266), (6, .int v267), (7, .int v268), (10, .long v269)] → mL_law_431 xs L kh127 s271 v264 v265 v266 v267 v268 v269 v270 = some () → W p l e room_1 s m #[Value.ref z] below meth c H locs 37 5296 (lw_Z below #[Value.ref z] s) (F0 m 431 ls [.int v270]) := by
        intro s271 v264 v265 v266 v267 v268 v269 v270 H locs ls hP hS hl hm
        unfold mL_law_431 at hm
        refine lv_istore (lv' := [(13, .int v270), (0, .ref z), (1, .ref (a 0)), (2, .int v264), (3, .long v265), (5, .int v266), (6, .int v267), (7, .int v268), (10, .long v269)]) hx hb dL_law_431 hl (by decide) rfl (fun ls hl => ?_)
        exact L_433 s271 v264 v265 v266 v267 v268 v269 v270 _ _ _ hP hS (lv_sub hl [1, 2, 3, 4, 5, 6, 7, 8, 0] rfl) hm
      have L_366 : ∀ (s279 : St) (v272 : Int32) (v273 : Int64) (v274 : Int32) (v275 : Int32) (v276 : Int32) (v277 : Int64) (v278 : Int32) (H : Heap) (locs : List Loc) (ls : Array Slot), va_P D vwCl (wC y a s279) H → va_S (AC a 37 s.heap.size) s.heap H locs → lv_has ls 20 [(0, .ref z), (1, .ref (a 0)), (2, .int v272), (3, .long v273), (5, .int v274), (6, .int v275), (7, .int v276), (10, .long v277), (13, .int v278)] → mL_law_366 xs L kh127 s279 v272 v273 v274 v275 v276 v277 v278 = some () → W p l e room_1 s m #[Value.ref z] below meth c H locs 37 5296 (lw_Z below #[Value.ref z] s) (F0 m 366 ls []) := by
        intro s279 v272 v273 v274 v275 v276 v277 v278 H locs ls hP hS hl hm
        unfold mL_law_366 at hm
        refine lv_goto (tgt := 433) hx hb dL_law_366 (by decide) ?_
        exact L_433 s279 v272 v273 v274 v275 v276 v277 v278 _ _ _ hP hS (lv_sub hl [0, 1, 2, 3, 4, 5, 6, 7, 8] rfl) hm
      have L_296 : ∀ (s290 : St) (v280 : Int32) (v281 : Int64) (v282 : Int32) (v283 : Int32) (v284 : Int32) (v285 : Int32) (v286 : Int32) (v287 : Int64) (v288 : Int32) (v289 : Int32) (H : Heap) (locs : List Loc) (ls : Array Slot), va_P D vwCl (wC y a s290) H → va_S (AC a 37 s.heap.size) s.heap H locs → lv_has ls 20 [(0, .ref z), (1, .ref (a 0)), (2, .int v280), (3, .long v281), (5, .int v282), (6, .int v283), (7, .int v284), (8, .int v285), (9, .int v286), (10, .long v287), (12, .int v288), (13, .int v289)] → mL_law_296 xs L kh127 s290 v280 v281 v282 v283 v284 v285 v286 v287 v288 v289 = some () → W p l e room_1 s m #[Value.ref z] below meth c H locs 37 5296 (lw_Z below #[Value.ref z] s) (F0 m 296 ls []) := by
        intro s290 v280 v281 v282 v283 v284 v285 v286 v287 v288 v289 H locs ls hP hS hl hm
        unfold mL_law_296 at hm
        refine lv_iload hx hb dL_law_296 (lv_at hl 8 rfl) ?_
        refine lv_bipush (v := 6) hx hb dL_law_298 (by decide) ?_
        refine lv_icmp_ge (tgt := 369) hx hb dL_law_300 (by decide) (fun c291 => ?_) (fun c291 => ?_)
        · have hm := (if_pos c291).symm.trans hm
          refine lv_iload hx hb dL_law_369 (lv_at hl 6 rfl) ?_
          refine lv_bipush (v := 7) hx hb dL_law_371 (by decide) ?_
          refine lv_ishr hx hb dL_law_373 ?_
          refine lv_bipush (v := 13) hx hb dL_law_374 (by decide) ?_
          obtain ⟨r292, h293, hm⟩ := ok_bind hm
          refine calS_i (As := [.int (v284 >>> (7 &&& 31)), .int 13]) (rest := []) ⟨hx, hb, hml, hown, hts⟩ (kL_below l D y a t hI _ s290 (v284 >>> (7 &&& 31)) 13 r292 h293) (va_cwS 2 hts (gAS aM_L_37 aT_L_below aN_L aC_L_below) rfl rfl rfl eL_below ⟨Nat.le_of_ble_eq_true rfl, Nat.le_of_ble_eq_true rfl⟩) (preS_W hK hP hF hS) rfl hl.1 rfl (Nat.le_of_ble_eq_true rfl) dL_law_376 ⟨Nat.le_of_ble_eq_true rfl, Nat.le_of_ble_eq_true rfl⟩ hS (AC_le hS.1) (fun H locs hP hS hk1 => ?_)
          refine lv_istore (lv' := [(14, .int r292), (0, .ref z), (1, .ref (a 0)), (2, .int v280), (3, .long v281), (5, .int v282), (6, .int v283), (7, .int v284), (8, .int v285), (9, .int v286), (10, .long v287), (12, .int v288), (13, .int v289)]) hx hb dL_law_379 hl (by decide) rfl (fun ls hl => ?_)
          refine lv_aload_n hx hb dL_law_381 rfl (lv_at hl 2 rfl) ?_
          refine lv_iload hx hb dL_law_382 (lv_at hl 0 rfl) ?_
          refine lv_iload hx hb dL_law_384 (lv_at hl 8 rfl) ?_
          refine lv_iload hx hb dL_law_386 (lv_at hl 7 rfl) ?_
          refine lv_iconst (v := 2) hx hb dL_law_388 (by decide) ?_
          refine lv_ishr hx hb dL_law_389 ?_
          refine lv_iload hx hb dL_law_390 (lv_at hl 11 rfl) ?_
          refine lv_iconst (v := 1) hx hb dL_law_392 (by decide) ?_
          refine lv_iadd hx hb dL_law_393 ?_
          obtain ⟨r294, h295, hm⟩ := ok_bind hm
          refine calS_i (As := [.int (v284 >>> (2 &&& 31)), .int (v288 + 1)]) (rest := [.int v285, .int r292, .ref (a 0)]) ⟨hx, hb, hml, hown, hts⟩ (kL_below l D y a t hI _ s290 (v284 >>> (2 &&& 31)) (v288 + 1) r294 h295) (va_cwS 2 hts (gAS aM_L_37 aT_L_below aN_L aC_L_below) rfl rfl rfl eL_below ⟨Nat.le_of_ble_eq_true rfl, Nat.le_of_ble_eq_true rfl⟩) (preS_W hK hP hF hS) rfl hl.1 rfl (Nat.le_of_ble_eq_true rfl) dL_law_394 ⟨Nat.le_of_ble_eq_true rfl, Nat.le_of_ble_eq_true rfl⟩ hS (AC_le hS.1) (fun H locs hP hS hk1 => ?_)
          refine lv_iload hx hb dL_law_397 (lv_at hl 7 rfl) ?_
          refine lv_iconst (v := 5) hx hb dL_law_399 (by decide) ?_
          refine lv_ishr hx hb dL_law_400 ?_
          refine lv_iload hx hb dL_law_401 (lv_at hl 11 rfl) ?_
          refine lv_iconst (v := 1) hx hb dL_law_403 (by decide) ?_
          refine lv_iadd hx hb dL_law_404 ?_
          obtain ⟨r296, h297, hm⟩ := ok_bind hm
          refine calS_i (As := [.int (v284 >>> (5 &&& 31)), .int (v288 + 1)]) (rest := [.int r294, .int v285, .int r292, .ref (a 0)]) ⟨hx, hb, hml, hown, hts⟩ (kL_below l D y a t hI _ s290 (v284 >>> (5 &&& 31)) (v288 + 1) r296 h297) (va_cwS 2 hts (gAS aM_L_37 aT_L_below aN_L aC_L_below) rfl rfl rfl eL_below ⟨Nat.le_of_ble_eq_true rfl, Nat.le_of_ble_eq_true rfl⟩) (preS_W hK hP hF hS) rfl hl.1 rfl (Nat.le_of_ble_eq_true rfl) dL_law_405 ⟨Nat.le_of_ble_eq_true rfl, Nat.le_of_ble_eq_true rfl⟩ hS (AC_le hS.1) (fun H locs hP hS hk1 => ?_)
          refine lv_iload hx hb dL_law_408 (lv_at hl 7 rfl) ?_
          refine lv_bipush (v := 9) hx hb dL_law_410 (by decide) ?_
          refine lv_ishr hx hb dL_law_412 ?_
          refine lv_iload hx hb dL_law_413 (lv_at hl 11 rfl) ?_
          refine lv_iconst (v := 1) hx hb dL_law_415 (by decide) ?_
          refine lv_iadd hx hb dL_law_416 ?_
          obtain ⟨r298, h299, hm⟩ := ok_bind hm
          refine calS_i (As := [.int (v284 >>> (9 &&& 31)), .int (v288 + 1)]) (rest := [.int r296, .int r294, .int v285, .int r292, .ref (a 0)]) ⟨hx, hb, hml, hown, hts⟩ (kL_below l D y a t hI _ s290 (v284 >>> (9 &&& 31)) (v288 + 1) r298 h299) (va_cwS 2 hts (gAS aM_L_37 aT_L_below aN_L aC_L_below) rfl rfl rfl eL_below ⟨Nat.le_of_ble_eq_true rfl, Nat.le_of_ble_eq_true rfl⟩) (preS_W hK hP hF hS) rfl hl.1 rfl (Nat.le_of_ble_eq_true rfl) dL_law_417 ⟨Nat.le_of_ble_eq_true rfl, Nat.le_of_ble_eq_true rfl⟩ hS (AC_le hS.1) (fun H locs hP hS hk1 => ?_)
          obtain ⟨⟨r300, s302⟩, h301, hm⟩ := ok_bind hm
          refine calV_i (As := [.int r292, .int v285, .int r294, .int r296, .int r298]) (rest := []) ⟨hx, hb, hml, hown, hts⟩ (kX7_step l D y a t hI _ s290 s302 r292 v285 r294 r296 r298 r300 h301) (cwV 5 hts (gAV aM_L_65 aI_X7_step aS_X7_step aN_X7 aC_X7_step) rfl rfl rfl eX7_step ⟨Nat.le_of_ble_eq_true rfl, Nat.le_of_ble_eq_true rfl⟩) (preV_W (ci := 7) (q := (RX7, TX7, 6)) hK hP hF hS rfl (wC_0 y a s290)) rfl hl.1 rfl (Nat.le_of_ble_eq_true rfl) dL_law_420 ⟨Nat.le_of_ble_eq_true rfl, Nat.le_of_ble_eq_true rfl⟩ hS (AC_le hS.1) (fun H locs hP hS hk1 => ?_)
          refine lv_if_ne (tgt := 430) hx hb dL_law_423 (by decide) (fun c303 => ?_) (fun c303 => ?_)
          · have hm := (if_neg c303).symm.trans hm
            refine lv_iconst (v := 0) hx hb dL_law_430 (by decide) ?_
            exact L_431 s302 v280 v281 v282 v283 v284 v287 0 _ _ _ hP hS (lv_sub hl [1, 2, 3, 4, 5, 6, 7, 10] rfl) hm
          · have hm := (if_pos c303).symm.trans hm
            refine lv_iconst (v := 1) hx hb dL_law_426 (by decide) ?_
            refine lv_goto (tgt := 431) hx hb dL_law_427 (by decide) ?_
            exact L_431 s302 v280 v281 v282 v283 v284 v287 1 _ _ _ hP hS (lv_sub hl [1, 2, 3, 4, 5, 6, 7, 10] rfl) hm
        · have hm := (if_neg c291).symm.trans hm
          refine lv_aload_n hx hb dL_law_303 rfl (lv_at hl 1 rfl) ?_
          refine lv_iload hx hb dL_law_304 (lv_at hl 7 rfl) ?_
          refine lv_iconst (v := 0) hx hb dL_law_306 (by decide) ?_
          obtain ⟨⟨r304, s306⟩, h305, hm⟩ := ok_bind hm
          refine calV_i (As := [.int v285, .int 0]) (rest := []) ⟨hx, hb, hml, hown, hts⟩ (kX7_hint l D y a t hI _ s290 s306 v285 0 r304 h305) (cwV 2 hts (gAV aM_L_62 aI_X7_hint aS_X7_hint aN_X7 aC_X7_hint) rfl rfl rfl eX7_hint ⟨Nat.le_of_ble_eq_true rfl, Nat.le_of_ble_eq_true rfl⟩) (preV_W (ci := 7) (q := (RX7, TX7, 6)) hK hP hF hS rfl (wC_0 y a s290)) rfl hl.1 rfl (Nat.le_of_ble_eq_true rfl) dL_law_307 ⟨Nat.le_of_ble_eq_true rfl, Nat.le_of_ble_eq_true rfl⟩ hS (AC_le hS.1) (fun H locs hP hS hk1 => ?_)
          refine lv_istore (lv' := [(14, .int r304), (0, .ref z), (1, .ref (a 0)), (2, .int v280), (3, .long v281), (5, .int v282), (6, .int v283), (7, .int v284), (8, .int v285), (9, .int v286), (10, .long v287), (12, .int v288), (13, .int v289)]) hx hb dL_law_310 hl (by decide) rfl (fun ls hl => ?_)
          refine lv_iload hx hb dL_law_312 (lv_at hl 0 rfl) ?_
          refine lv_if_lt (tgt := 366) hx hb dL_law_314 (by decide) (fun c307 => ?_) (fun c307 => ?_)
          · have hm := (if_pos c307).symm.trans hm
            exact L_366 s306 v280 v281 v282 v283 v284 v287 v289 _ _ _ hP hS (lv_sub hl [1, 2, 3, 4, 5, 6, 7, 10, 12] rfl) hm
          · have hm := (if_neg c307).symm.trans hm
            refine lv_aload_n hx hb dL_law_317 rfl (lv_at hl 2 rfl) ?_
            refine lv_iload hx hb dL_law_318 (lv_at hl 0 rfl) ?_
            refine lv_iload hx hb dL_law_320 (lv_at hl 8 rfl) ?_
            refine lv_aload_n hx hb dL_law_322 rfl (lv_at hl 2 rfl) ?_
            refine lv_iload hx hb dL_law_323 (lv_at hl 8 rfl) ?_
            refine lv_iconst (v := 1) hx hb dL_law_325 (by decide) ?_
            obtain ⟨⟨r308, s310⟩, h309, hm⟩ := ok_bind hm
            refine calV_i (As := [.int v285, .int 1]) (rest := [.int v285, .int r304, .ref (a 0)]) ⟨hx, hb, hml, hown, hts⟩ (kX7_hint l D y a t hI _ s306 s310 v285 1 r308 h309) (cwV 2 hts (gAV aM_L_62 aI_X7_hint aS_X7_hint aN_X7 aC_X7_hint) rfl rfl rfl eX7_hint ⟨Nat.le_of_ble_eq_true rfl, Nat.le_of_ble_eq_true rfl⟩) (preV_W (ci := 7) (q := (RX7, TX7, 6)) hK hP hF hS rfl (wC_0 y a s306)) rfl hl.1 rfl (Nat.le_of_ble_eq_true rfl) dL_law_326 ⟨Nat.le_of_ble_eq_true rfl, Nat.le_of_ble_eq_true rfl⟩ hS (AC_le hS.1) (fun H locs hP hS hk1 => ?_)
            refine lv_aload_n hx hb dL_law_329 rfl (lv_at hl 2 rfl) ?_
            refine lv_iload hx hb dL_law_330 (lv_at hl 8 rfl) ?_
            refine lv_iconst (v := 2) hx hb dL_law_332 (by decide) ?_
            obtain ⟨⟨r311, s313⟩, h312, hm⟩ := ok_bind hm
            refine calV_i (As := [.int v285, .int 2]) (rest := [.int r308, .int v285, .int r304, .ref (a 0)]) ⟨hx, hb, hml, hown, hts⟩ (kX7_hint l D y a t hI _ s310 s313 v285 2 r311 h312) (cwV 2 hts (gAV aM_L_62 aI_X7_hint aS_X7_hint aN_X7 aC_X7_hint) rfl rfl rfl eX7_hint ⟨Nat.le_of_ble_eq_true rfl, Nat.le_of_ble_eq_true rfl⟩) (preV_W (ci := 7) (q := (RX7, TX7, 6)) hK hP hF hS rfl (wC_0 y a s310)) rfl hl.1 rfl (Nat.le_of_ble_eq_true rfl) dL_law_333 ⟨Nat.le_of_ble_eq_true rfl, Nat.le_of_ble_eq_true rfl⟩ hS (AC_le hS.1) (fun H locs hP hS hk1 => ?_)
            refine lv_aload_n hx hb dL_law_336 rfl (lv_at hl 2 rfl) ?_
            refine lv_iload hx hb dL_law_337 (lv_at hl 8 rfl) ?_
            refine lv_iconst (v := 3) hx hb dL_law_339 (by decide) ?_
            obtain ⟨⟨r314, s316⟩, h315, hm⟩ := ok_bind hm
            refine calV_i (As := [.int v285, .int 3]) (rest := [.int r311, .int r308, .int v285, .int r304, .ref (a 0)]) ⟨hx, hb, hml, hown, hts⟩ (kX7_hint l D y a t hI _ s313 s316 v285 3 r314 h315) (cwV 2 hts (gAV aM_L_62 aI_X7_hint aS_X7_hint aN_X7 aC_X7_hint) rfl rfl rfl eX7_hint ⟨Nat.le_of_ble_eq_true rfl, Nat.le_of_ble_eq_true rfl⟩) (preV_W (ci := 7) (q := (RX7, TX7, 6)) hK hP hF hS rfl (wC_0 y a s313)) rfl hl.1 rfl (Nat.le_of_ble_eq_true rfl) dL_law_340 ⟨Nat.le_of_ble_eq_true rfl, Nat.le_of_ble_eq_true rfl⟩ hS (AC_le hS.1) (fun H locs hP hS hk1 => ?_)
            obtain ⟨⟨r317, s319⟩, h318, hm⟩ := ok_bind hm
            refine calV_i (As := [.int r304, .int v285, .int r308, .int r311, .int r314]) (rest := []) ⟨hx, hb, hml, hown, hts⟩ (kX7_step l D y a t hI _ s316 s319 r304 v285 r308 r311 r314 r317 h318) (cwV 5 hts (gAV aM_L_65 aI_X7_step aS_X7_step aN_X7 aC_X7_step) rfl rfl rfl eX7_step ⟨Nat.le_of_ble_eq_true rfl, Nat.le_of_ble_eq_true rfl⟩) (preV_W (ci := 7) (q := (RX7, TX7, 6)) hK hP hF hS rfl (wC_0 y a s316)) rfl hl.1 rfl (Nat.le_of_ble_eq_true rfl) dL_law_343 ⟨Nat.le_of_ble_eq_true rfl, Nat.le_of_ble_eq_true rfl⟩ hS (AC_le hS.1) (fun H locs hP hS hk1 => ?_)
            refine lv_if_ne (tgt := 361) hx hb dL_law_346 (by decide) (fun c320 => ?_) (fun c320 => ?_)
            · have hm := (if_neg c320).symm.trans hm
              refine lv_iconst (v := 0) hx hb dL_law_361 (by decide) ?_
              cases hm
            · have hm := (if_pos c320).symm.trans hm
              refine lv_aload_n hx hb dL_law_349 rfl (lv_at hl 2 rfl) ?_
              refine lv_iload hx hb dL_law_350 (lv_at hl 11 rfl) ?_
              refine lv_iconst (v := 1) hx hb dL_law_352 (by decide) ?_
              obtain ⟨⟨r321, s323⟩, h322, hm⟩ := ok_bind hm
              refine calV_i (As := [.int v288, .int 1]) (rest := []) ⟨hx, hb, hml, hown, hts⟩ (kX7_line l D y a t hI _ s319 s323 v288 1 r321 h322) (cwV 2 hts (gAV aM_L_69 aI_X7_line aS_X7_line aN_X7 aC_X7_line) rfl rfl rfl eX7_line ⟨Nat.le_of_ble_eq_true rfl, Nat.le_of_ble_eq_true rfl⟩) (preV_W (ci := 7) (q := (RX7, TX7, 6)) hK hP hF hS rfl (wC_0 y a s319)) rfl hl.1 rfl (Nat.le_of_ble_eq_true rfl) dL_law_353 ⟨Nat.le_of_ble_eq_true rfl, Nat.le_of_ble_eq_true rfl⟩ hS (AC_le hS.1) (fun H locs hP hS hk1 => ?_)
              refine lv_iload hx hb dL_law_356 (lv_at hl 0 rfl) ?_
              refine lv_icmp_eq (tgt := 363) hx hb dL_law_358 (by decide) (fun c324 => ?_) (fun c324 => ?_)
              · have hm := (if_pos c324).symm.trans hm
                refine lv_iconst (v := 1) hx hb dL_law_363 (by decide) ?_
                refine lv_istore (lv' := [(13, .int 1), (14, .int r304), (0, .ref z), (1, .ref (a 0)), (2, .int v280), (3, .long v281), (5, .int v282), (6, .int v283), (7, .int v284), (8, .int v285), (9, .int v286), (10, .long v287), (12, .int v288)]) hx hb dL_law_364 hl (by decide) rfl (fun ls hl => ?_)
                exact L_366 s323 v280 v281 v282 v283 v284 v287 1 _ _ _ hP hS (lv_sub hl [2, 3, 4, 5, 6, 7, 8, 11, 0] rfl) hm
              · have hm := (if_neg c324).symm.trans hm
                refine lv_iconst (v := 0) hx hb dL_law_361 (by decide) ?_
                cases hm
      have L_291 : ∀ (s332 : St) (v325 : Int32) (v326 : Int64) (v327 : Int32) (v328 : Int32) (v329 : Int32) (v330 : Int64) (v331 : Int32) (H : Heap) (locs : List Loc) (ls : Array Slot), va_P D vwCl (wC y a s332) H → va_S (AC a 37 s.heap.size) s.heap H locs → lv_has ls 20 [(0, .ref z), (1, .ref (a 0)), (2, .int v325), (3, .long v326), (5, .int v327), (6, .int v328), (7, .int v329), (10, .long v330)] → mL_law_291 xs L kh127 s332 v325 v326 v327 v328 v329 v330 v331 = some () → W p l e room_1 s m #[Value.ref z] below meth c H locs 37 5296 (lw_Z below #[Value.ref z] s) (F0 m 291 ls [.int v331]) := by
        intro s332 v325 v326 v327 v328 v329 v330 v331 H locs ls hP hS hl hm
        unfold mL_law_291 at hm
        refine lv_istore (lv' := [(13, .int v331), (0, .ref z), (1, .ref (a 0)), (2, .int v325), (3, .long v326), (5, .int v327), (6, .int v328), (7, .int v329), (10, .long v330)]) hx hb dL_law_291 hl (by decide) rfl (fun ls hl => ?_)
        refine lv_goto (tgt := 433) hx hb dL_law_293 (by decide) ?_
        exact L_433 s332 v325 v326 v327 v328 v329 v330 v331 _ _ _ hP hS (lv_sub hl [1, 2, 3, 4, 5, 6, 7, 8, 0] rfl) hm
      have L_252 : ∀ (s343 : St) (v333 : Int32) (v334 : Int64) (v335 : Int32) (v336 : Int32) (v337 : Int32) (v338 : Int32) (v339 : Int32) (v340 : Int64) (v341 : Int32) (v342 : Int32) (H : Heap) (locs : List Loc) (ls : Array Slot), va_P D vwCl (wC y a s343) H → va_S (AC a 37 s.heap.size) s.heap H locs → lv_has ls 20 [(0, .ref z), (1, .ref (a 0)), (2, .int v333), (3, .long v334), (5, .int v335), (6, .int v336), (7, .int v337), (8, .int v338), (9, .int v339), (10, .long v340), (12, .int v341), (13, .int v342)] → mL_law_252 xs L kh127 s343 v333 v334 v335 v336 v337 v338 v339 v340 v341 v342 = some () → W p l e room_1 s m #[Value.ref z] below meth c H locs 37 5296 (lw_Z below #[Value.ref z] s) (F0 m 252 ls []) := by
        intro s343 v333 v334 v335 v336 v337 v338 v339 v340 v341 v342 H locs ls hP hS hl hm
        unfold mL_law_252 at hm
        refine lv_iload hx hb dL_law_252 (lv_at hl 8 rfl) ?_
        refine lv_iconst (v := 2) hx hb dL_law_254 (by decide) ?_
        refine lv_icmp_ne (tgt := 296) hx hb dL_law_255 (by decide) (fun c344 => ?_) (fun c344 => ?_)
        · have hm := (if_neg c344).symm.trans hm
          exact L_296 s343 v333 v334 v335 v336 v337 v338 v339 v340 v341 v342 _ _ _ hP hS (lv_sub hl [0, 1, 2, 3, 4, 5, 6, 7, 8, 9, 10, 11] rfl) hm
        · have hm := (if_pos c344).symm.trans hm
          refine lv_iload hx hb dL_law_258 (lv_at hl 10 rfl) ?_
          refine lv_iconst (v := 2) hx hb dL_law_260 (by decide) ?_
          refine lv_icmp_ge (tgt := 296) hx hb dL_law_261 (by decide) (fun c345 => ?_) (fun c345 => ?_)
          · have hm := (if_pos c345).symm.trans hm
            exact L_296 s343 v333 v334 v335 v336 v337 v338 v339 v340 v341 v342 _ _ _ hP hS (lv_sub hl [0, 1, 2, 3, 4, 5, 6, 7, 8, 9, 10, 11] rfl) hm
          · have hm := (if_neg c345).symm.trans hm
            refine lv_aload_n hx hb dL_law_264 rfl (lv_at hl 1 rfl) ?_
            refine lv_bipush (v := 6) hx hb dL_law_265 (by decide) ?_
            obtain ⟨⟨r346, s348⟩, h347, hm⟩ := ok_bind hm
            refine calV_i (As := [.int 6]) (rest := []) ⟨hx, hb, hml, hown, hts⟩ (kX7_count l D y a t hI _ s343 s348 6 r346 h347) (cwV 1 hts (gAV aM_L_45 aI_X7_count aS_X7_count aN_X7 aC_X7_count) rfl rfl rfl eX7_count ⟨Nat.le_of_ble_eq_true rfl, Nat.le_of_ble_eq_true rfl⟩) (preV_W (ci := 7) (q := (RX7, TX7, 6)) hK hP hF hS rfl (wC_0 y a s343)) rfl hl.1 rfl (Nat.le_of_ble_eq_true rfl) dL_law_267 ⟨Nat.le_of_ble_eq_true rfl, Nat.le_of_ble_eq_true rfl⟩ hS (AC_le hS.1) (fun H locs hP hS hk1 => ?_)
            refine lv_iload hx hb dL_law_270 (lv_at hl 10 rfl) ?_
            refine lv_icmp_ne (tgt := 296) hx hb dL_law_272 (by decide) (fun c349 => ?_) (fun c349 => ?_)
            · have hm := (if_neg c349).symm.trans hm
              exact L_296 s348 v333 v334 v335 v336 v337 v338 v339 v340 v341 v342 _ _ _ hP hS (lv_sub hl [0, 1, 2, 3, 4, 5, 6, 7, 8, 9, 10, 11] rfl) hm
            · have hm := (if_pos c349).symm.trans hm
              refine lv_aload_n hx hb dL_law_275 rfl (lv_at hl 1 rfl) ?_
              refine lv_iload hx hb dL_law_276 (lv_at hl 7 rfl) ?_
              obtain ⟨⟨r350, s352⟩, h351, hm⟩ := ok_bind hm
              refine calV_i (As := [.int v338]) (rest := []) ⟨hx, hb, hml, hown, hts⟩ (kX7_premise l D y a t hI _ s348 s352 v338 r350 h351) (cwV 1 hts (gAV aM_L_59 aI_X7_premise aS_X7_premise aN_X7 aC_X7_premise) rfl rfl rfl eX7_premise ⟨Nat.le_of_ble_eq_true rfl, Nat.le_of_ble_eq_true rfl⟩) (preV_W (ci := 7) (q := (RX7, TX7, 6)) hK hP hF hS rfl (wC_0 y a s348)) rfl hl.1 rfl (Nat.le_of_ble_eq_true rfl) dL_law_278 ⟨Nat.le_of_ble_eq_true rfl, Nat.le_of_ble_eq_true rfl⟩ hS (AC_le hS.1) (fun H locs hP hS hk1 => ?_)
              refine lv_iload hx hb dL_law_281 (lv_at hl 10 rfl) ?_
              refine lv_icmp_ne (tgt := 290) hx hb dL_law_283 (by decide) (fun c353 => ?_) (fun c353 => ?_)
              · have hm := (if_neg c353).symm.trans hm
                refine lv_iconst (v := 0) hx hb dL_law_290 (by decide) ?_
                exact L_291 s352 v333 v334 v335 v336 v337 v340 0 _ _ _ hP hS (lv_sub hl [0, 1, 2, 3, 4, 5, 6, 9] rfl) hm
              · have hm := (if_pos c353).symm.trans hm
                refine lv_iconst (v := 1) hx hb dL_law_286 (by decide) ?_
                refine lv_goto (tgt := 291) hx hb dL_law_287 (by decide) ?_
                exact L_291 s352 v333 v334 v335 v336 v337 v340 1 _ _ _ hP hS (lv_sub hl [0, 1, 2, 3, 4, 5, 6, 9] rfl) hm
      have L_227 : ∀ (s364 : St) (v354 : Int32) (v355 : Int64) (v356 : Int32) (v357 : Int32) (v358 : Int32) (v359 : Int32) (v360 : Int32) (v361 : Int64) (v362 : Int32) (v363 : Int32) (H : Heap) (locs : List Loc) (ls : Array Slot), va_P D vwCl (wC y a s364) H → va_S (AC a 37 s.heap.size) s.heap H locs → lv_has ls 20 [(0, .ref z), (1, .ref (a 0)), (2, .int v354), (3, .long v355), (5, .int v356), (6, .int v357), (7, .int v358), (8, .int v359), (9, .int v360), (10, .long v361), (12, .int v362), (13, .int v363)] → mL_law_227 xs L kh127 s364 v354 v355 v356 v357 v358 v359 v360 v361 v362 v363 = some () → W p l e room_1 s m #[Value.ref z] below meth c H locs 37 5296 (lw_Z below #[Value.ref z] s) (F0 m 227 ls []) := by
        intro s364 v354 v355 v356 v357 v358 v359 v360 v361 v362 v363 H locs ls hP hS hl hm
        unfold mL_law_227 at hm
        refine lv_iload hx hb dL_law_227 (lv_at hl 8 rfl) ?_
        refine lv_iconst (v := 1) hx hb dL_law_229 (by decide) ?_
        refine lv_icmp_ne (tgt := 252) hx hb dL_law_230 (by decide) (fun c365 => ?_) (fun c365 => ?_)
        · have hm := (if_neg c365).symm.trans hm
          exact L_252 s364 v354 v355 v356 v357 v358 v359 v360 v361 v362 v363 _ _ _ hP hS (lv_sub hl [0, 1, 2, 3, 4, 5, 6, 7, 8, 9, 10, 11] rfl) hm
        · have hm := (if_pos c365).symm.trans hm
          refine lv_aload_n hx hb dL_law_233 rfl (lv_at hl 1 rfl) ?_
          refine lv_iconst (v := 5) hx hb dL_law_234 (by decide) ?_
          obtain ⟨⟨r366, s368⟩, h367, hm⟩ := ok_bind hm
          refine calV_i (As := [.int 5]) (rest := []) ⟨hx, hb, hml, hown, hts⟩ (kX7_count l D y a t hI _ s364 s368 5 r366 h367) (cwV 1 hts (gAV aM_L_45 aI_X7_count aS_X7_count aN_X7 aC_X7_count) rfl rfl rfl eX7_count ⟨Nat.le_of_ble_eq_true rfl, Nat.le_of_ble_eq_true rfl⟩) (preV_W (ci := 7) (q := (RX7, TX7, 6)) hK hP hF hS rfl (wC_0 y a s364)) rfl hl.1 rfl (Nat.le_of_ble_eq_true rfl) dL_law_235 ⟨Nat.le_of_ble_eq_true rfl, Nat.le_of_ble_eq_true rfl⟩ hS (AC_le hS.1) (fun H locs hP hS hk1 => ?_)
          refine lv_if_le (tgt := 252) hx hb dL_law_238 (by decide) (fun c369 => ?_) (fun c369 => ?_)
          · have hm := (if_pos c369).symm.trans hm
            exact L_252 s368 v354 v355 v356 v357 v358 v359 v360 v361 v362 v363 _ _ _ hP hS (lv_sub hl [0, 1, 2, 3, 4, 5, 6, 7, 8, 9, 10, 11] rfl) hm
          · have hm := (if_neg c369).symm.trans hm
            refine lv_aload_n hx hb dL_law_241 rfl (lv_at hl 1 rfl) ?_
            obtain ⟨⟨r370, s372⟩, h371, hm⟩ := ok_bind hm
            refine calV_i (As := []) (rest := []) ⟨hx, hb, hml, hown, hts⟩ (kX7_close l D y a t hI _ s368 s372 r370 h371) (cwV 0 hts (gAV aM_L_56 aI_X7_close aS_X7_close aN_X7 aC_X7_close) rfl rfl rfl eX7_close ⟨Nat.le_of_ble_eq_true rfl, Nat.le_of_ble_eq_true rfl⟩) (preV_W (ci := 7) (q := (RX7, TX7, 6)) hK hP hF hS rfl (wC_0 y a s368)) rfl hl.1 rfl (Nat.le_of_ble_eq_true rfl) dL_law_242 ⟨Nat.le_of_ble_eq_true rfl, Nat.le_of_ble_eq_true rfl⟩ hS (AC_le hS.1) (fun H locs hP hS hk1 => ?_)
            refine lv_pop hx hb dL_law_245 rfl ?_
            refine lv_iconst (v := 1) hx hb dL_law_246 (by decide) ?_
            refine lv_istore (lv' := [(13, .int 1), (0, .ref z), (1, .ref (a 0)), (2, .int v354), (3, .long v355), (5, .int v356), (6, .int v357), (7, .int v358), (8, .int v359), (9, .int v360), (10, .long v361), (12, .int v362)]) hx hb dL_law_247 hl (by decide) rfl (fun ls hl => ?_)
            refine lv_goto (tgt := 433) hx hb dL_law_249 (by decide) ?_
            exact L_433 s372 v354 v355 v356 v357 v358 v361 1 _ _ _ hP hS (lv_sub hl [1, 2, 3, 4, 5, 6, 7, 10, 0] rfl) hm
      have L_222 : ∀ (s380 : St) (v373 : Int32) (v374 : Int64) (v375 : Int32) (v376 : Int32) (v377 : Int32) (v378 : Int64) (v379 : Int32) (H : Heap) (locs : List Loc) (ls : Array Slot), va_P D vwCl (wC y a s380) H → va_S (AC a 37 s.heap.size) s.heap H locs → lv_has ls 20 [(0, .ref z), (1, .ref (a 0)), (2, .int v373), (3, .long v374), (5, .int v375), (6, .int v376), (7, .int v377), (10, .long v378)] → mL_law_222 xs L kh127 s380 v373 v374 v375 v376 v377 v378 v379 = some () → W p l e room_1 s m #[Value.ref z] below meth c H locs 37 5296 (lw_Z below #[Value.ref z] s) (F0 m 222 ls [.int v379]) := by
        intro s380 v373 v374 v375 v376 v377 v378 v379 H locs ls hP hS hl hm
        unfold mL_law_222 at hm
        refine lv_istore (lv' := [(13, .int v379), (0, .ref z), (1, .ref (a 0)), (2, .int v373), (3, .long v374), (5, .int v375), (6, .int v376), (7, .int v377), (10, .long v378)]) hx hb dL_law_222 hl (by decide) rfl (fun ls hl => ?_)
        refine lv_goto (tgt := 433) hx hb dL_law_224 (by decide) ?_
        exact L_433 s380 v373 v374 v375 v376 v377 v378 v379 _ _ _ hP hS (lv_sub hl [1, 2, 3, 4, 5, 6, 7, 8, 0] rfl) hm
      intro s385 v381 v382 v383 v384 H locs ls hP hS hl hm
      have hm : bL_law_127 xs L (mL_law_127 xs L n) s385 v381 v382 v383 v384 = some () := hm
      rw [← ekh127] at hm
      unfold bL_law_127 at hm
      refine lv_iload hx hb dL_law_127 (lv_at hl 5 rfl) ?_
      refine lv_bipush (v := 30) hx hb dL_law_129 (by decide) ?_
      refine lv_icmp_ge (tgt := 890) hx hb dL_law_131 (by decide) (fun c386 => ?_) (fun c386 => ?_)
      · have hm := (if_pos c386).symm.trans hm
        exact L_890 s385 v382 v383 _ _ _ hP hS (lv_sub hl [1, 3, 4] rfl) hm
      · have hm := (if_neg c386).symm.trans hm
        refine lv_aload_n hx hb dL_law_134 rfl (lv_at hl 0 rfl) ?_
        refine lv_bipush (v := 7) hx hb dL_law_135 (by decide) ?_
        refine lv_iload hx hb dL_law_137 (lv_at hl 5 rfl) ?_
        refine lv_bipush (v := 9) hx hb dL_law_139 (by decide) ?_
        refine lv_irem hx hb dL_law_141 (by decide) ?_
        refine lv_iadd hx hb dL_law_142 ?_
        obtain ⟨r387, h388, hm⟩ := ok_bind hm
        refine calS_i (As := [.ref z, .int (7 + (v384 - v384 / 9 * 9))]) (rest := []) ⟨hx, hb, hml, hown, hts⟩ (kL_cell l D y a t z L xs _ s385 (7 + (v384 - v384 / 9 * 9)) r387 h388) (va_cwS 2 hts (gAS aM_L_33 aT_L_cell aN_L aC_L_cell) rfl rfl rfl eL_cell ⟨Nat.le_of_ble_eq_true rfl, Nat.le_of_ble_eq_true rfl⟩) (preX_W hK hP hF hS hX hzl hzA) rfl hl.1 rfl (Nat.le_of_ble_eq_true rfl) dL_law_143 ⟨Nat.le_of_ble_eq_true rfl, Nat.le_of_ble_eq_true rfl⟩ hS (AC_le hS.1) (fun H locs hP hS hk1 => ?_)
        refine lv_iload hx hb dL_law_146 (lv_at hl 5 rfl) ?_
        refine lv_bipush (v := 9) hx hb dL_law_148 (by decide) ?_
        refine lv_idiv hx hb dL_law_150 (by decide) ?_
        refine lv_iconst (v := 5) hx hb dL_law_151 (by decide) ?_
        refine lv_imul hx hb dL_law_152 ?_
        refine lv_ishr hx hb dL_law_153 ?_
        refine lv_topi (fun x389 ex389 => ?_)
        have hm := bnd_x ex389 hm
        refine lv_istore (lv' := [(7, .int x389), (0, .ref z), (1, .ref (a 0)), (2, .int v381), (3, .long v382), (5, .int v383), (6, .int v384)]) hx hb dL_law_154 hl (by decide) rfl (fun ls hl => ?_)
        refine lv_iload hx hb dL_law_156 (lv_at hl 0 rfl) ?_
        refine lv_iconst (v := 4) hx hb dL_law_158 (by decide) ?_
        refine lv_ishr hx hb dL_law_159 ?_
        refine lv_iload_n hx hb dL_law_160 rfl (lv_at hl 3 rfl) ?_
        obtain ⟨r390, h391, hm⟩ := ok_bind hm
        refine calS_i (As := [.int (x389 >>> (4 &&& 31)), .int v381]) (rest := []) ⟨hx, hb, hml, hown, hts⟩ (kL_below l D y a t hI _ s385 (x389 >>> (4 &&& 31)) v381 r390 h391) (va_cwS 2 hts (gAS aM_L_37 aT_L_below aN_L aC_L_below) rfl rfl rfl eL_below ⟨Nat.le_of_ble_eq_true rfl, Nat.le_of_ble_eq_true rfl⟩) (preS_W hK hP hF hS) rfl hl.1 rfl (Nat.le_of_ble_eq_true rfl) dL_law_161 ⟨Nat.le_of_ble_eq_true rfl, Nat.le_of_ble_eq_true rfl⟩ hS (AC_le hS.1) (fun H locs hP hS hk1 => ?_)
        refine lv_istore (lv' := [(8, .int r390), (7, .int x389), (0, .ref z), (1, .ref (a 0)), (2, .int v381), (3, .long v382), (5, .int v383), (6, .int v384)]) hx hb dL_law_164 hl (by decide) rfl (fun ls hl => ?_)
        refine lv_iload hx hb dL_law_166 (lv_at hl 1 rfl) ?_
        refine lv_bipush (v := 9) hx hb dL_law_168 (by decide) ?_
        obtain ⟨r392, h393, hm⟩ := ok_bind hm
        refine calS_i (As := [.int x389, .int 9]) (rest := []) ⟨hx, hb, hml, hown, hts⟩ (kL_below l D y a t hI _ s385 x389 9 r392 h393) (va_cwS 2 hts (gAS aM_L_37 aT_L_below aN_L aC_L_below) rfl rfl rfl eL_below ⟨Nat.le_of_ble_eq_true rfl, Nat.le_of_ble_eq_true rfl⟩) (preS_W hK hP hF hS) rfl hl.1 rfl (Nat.le_of_ble_eq_true rfl) dL_law_170 ⟨Nat.le_of_ble_eq_true rfl, Nat.le_of_ble_eq_true rfl⟩ hS (AC_le hS.1) (fun H locs hP hS hk1 => ?_)
        refine lv_istore (lv' := [(9, .int r392), (8, .int r390), (7, .int x389), (0, .ref z), (1, .ref (a 0)), (2, .int v381), (3, .long v382), (5, .int v383), (6, .int v384)]) hx hb dL_law_173 hl (by decide) rfl (fun ls hl => ?_)
        refine lv_aload_n hx hb dL_law_175 rfl (lv_at hl 4 rfl) ?_
        obtain ⟨⟨r394, s396⟩, h395, hm⟩ := ok_bind hm
        refine calV_l (As := []) (rest := []) ⟨hx, hb, hml, hown, hts⟩ (kX7_digest l D y a t hI _ s385 s396 r394 h395) (cwV 0 hts (gAV aM_L_49 aI_X7_digest aS_X7_digest aN_X7 aC_X7_digest) rfl rfl rfl eX7_digest ⟨Nat.le_of_ble_eq_true rfl, Nat.le_of_ble_eq_true rfl⟩) (preV_W (ci := 7) (q := (RX7, TX7, 6)) hK hP hF hS rfl (wC_0 y a s385)) rfl hl.1 rfl (Nat.le_of_ble_eq_true rfl) dL_law_176 ⟨Nat.le_of_ble_eq_true rfl, Nat.le_of_ble_eq_true rfl⟩ hS (AC_le hS.1) (fun H locs hP hS hk1 => ?_)
        refine lv_lstore (lv' := [(10, .long r394), (9, .int r392), (8, .int r390), (7, .int x389), (0, .ref z), (1, .ref (a 0)), (2, .int v381), (3, .long v382), (5, .int v383), (6, .int v384)]) hx hb dL_law_179 hl (by decide) rfl (fun ls hl => ?_)
        refine lv_aload_n hx hb dL_law_181 rfl (lv_at hl 5 rfl) ?_
        refine lv_iconst (v := 3) hx hb dL_law_182 (by decide) ?_
        obtain ⟨⟨r397, s399⟩, h398, hm⟩ := ok_bind hm
        refine calV_i (As := [.int 3]) (rest := []) ⟨hx, hb, hml, hown, hts⟩ (kX7_count l D y a t hI _ s396 s399 3 r397 h398) (cwV 1 hts (gAV aM_L_45 aI_X7_count aS_X7_count aN_X7 aC_X7_count) rfl rfl rfl eX7_count ⟨Nat.le_of_ble_eq_true rfl, Nat.le_of_ble_eq_true rfl⟩) (preV_W (ci := 7) (q := (RX7, TX7, 6)) hK hP hF hS rfl (wC_0 y a s396)) rfl hl.1 rfl (Nat.le_of_ble_eq_true rfl) dL_law_183 ⟨Nat.le_of_ble_eq_true rfl, Nat.le_of_ble_eq_true rfl⟩ hS (AC_le hS.1) (fun H locs hP hS hk1 => ?_)
        refine lv_istore (lv' := [(12, .int r397), (10, .long r394), (9, .int r392), (8, .int r390), (7, .int x389), (0, .ref z), (1, .ref (a 0)), (2, .int v381), (3, .long v382), (5, .int v383), (6, .int v384)]) hx hb dL_law_186 hl (by decide) rfl (fun ls hl => ?_)
        refine lv_iconst (v := 0) hx hb dL_law_188 (by decide) ?_
        refine lv_istore (lv' := [(13, .int 0), (12, .int r397), (10, .long r394), (9, .int r392), (8, .int r390), (7, .int x389), (0, .ref z), (1, .ref (a 0)), (2, .int v381), (3, .long v382), (5, .int v383), (6, .int v384)]) hx hb dL_law_189 hl (by decide) rfl (fun ls hl => ?_)
        refine lv_iload hx hb dL_law_191 (lv_at hl 3 rfl) ?_
        refine lv_if_ne (tgt := 227) hx hb dL_law_193 (by decide) (fun c400 => ?_) (fun c400 => ?_)
        · have hm := (if_neg c400).symm.trans hm
          exact L_227 s399 v381 v382 v383 v384 x389 r390 r392 r394 r397 0 _ _ _ hP hS (lv_sub hl [6, 7, 8, 9, 10, 11, 5, 4, 3, 2, 1, 0] rfl) hm
        · have hm := (if_pos c400).symm.trans hm
          refine lv_aload_n hx hb dL_law_196 rfl (lv_at hl 7 rfl) ?_
          refine lv_iconst (v := 5) hx hb dL_law_197 (by decide) ?_
          obtain ⟨⟨r401, s403⟩, h402, hm⟩ := ok_bind hm
          refine calV_i (As := [.int 5]) (rest := []) ⟨hx, hb, hml, hown, hts⟩ (kX7_count l D y a t hI _ s399 s403 5 r401 h402) (cwV 1 hts (gAV aM_L_45 aI_X7_count aS_X7_count aN_X7 aC_X7_count) rfl rfl rfl eX7_count ⟨Nat.le_of_ble_eq_true rfl, Nat.le_of_ble_eq_true rfl⟩) (preV_W (ci := 7) (q := (RX7, TX7, 6)) hK hP hF hS rfl (wC_0 y a s399)) rfl hl.1 rfl (Nat.le_of_ble_eq_true rfl) dL_law_198 ⟨Nat.le_of_ble_eq_true rfl, Nat.le_of_ble_eq_true rfl⟩ hS (AC_le hS.1) (fun H locs hP hS hk1 => ?_)
          refine lv_bipush (v := 6) hx hb dL_law_201 (by decide) ?_
          refine lv_icmp_ge (tgt := 227) hx hb dL_law_203 (by decide) (fun c404 => ?_) (fun c404 => ?_)
          · have hm := (if_pos c404).symm.trans hm
            exact L_227 s403 v381 v382 v383 v384 x389 r390 r392 r394 r397 0 _ _ _ hP hS (lv_sub hl [6, 7, 8, 9, 10, 11, 5, 4, 3, 2, 1, 0] rfl) hm
          · have hm := (if_neg c404).symm.trans hm
            refine lv_aload_n hx hb dL_law_206 rfl (lv_at hl 7 rfl) ?_
            refine lv_iload hx hb dL_law_207 (lv_at hl 4 rfl) ?_
            obtain ⟨⟨r405, s407⟩, h406, hm⟩ := ok_bind hm
            refine calV_i (As := [.int r390]) (rest := []) ⟨hx, hb, hml, hown, hts⟩ (kX7_assume l D y a t hI _ s403 s407 r390 r405 h406) (cwV 1 hts (gAV aM_L_53 aI_X7_assume aS_X7_assume aN_X7 aC_X7_assume) rfl rfl rfl eX7_assume ⟨Nat.le_of_ble_eq_true rfl, Nat.le_of_ble_eq_true rfl⟩) (preV_W (ci := 7) (q := (RX7, TX7, 6)) hK hP hF hS rfl (wC_0 y a s403)) rfl hl.1 rfl (Nat.le_of_ble_eq_true rfl) dL_law_209 ⟨Nat.le_of_ble_eq_true rfl, Nat.le_of_ble_eq_true rfl⟩ hS (AC_le hS.1) (fun H locs hP hS hk1 => ?_)
            refine lv_iload hx hb dL_law_212 (lv_at hl 1 rfl) ?_
            refine lv_icmp_ne (tgt := 221) hx hb dL_law_214 (by decide) (fun c408 => ?_) (fun c408 => ?_)
            · have hm := (if_neg c408).symm.trans hm
              refine lv_iconst (v := 0) hx hb dL_law_221 (by decide) ?_
              exact L_222 s407 v381 v382 v383 v384 x389 r394 0 _ _ _ hP hS (lv_sub hl [6, 7, 8, 9, 10, 11, 5, 2] rfl) hm
            · have hm := (if_pos c408).symm.trans hm
              refine lv_iconst (v := 1) hx hb dL_law_217 (by decide) ?_
              refine lv_goto (tgt := 222) hx hb dL_law_218 (by decide) ?_
              exact L_222 s407 v381 v382 v383 v384 x389 r394 1 _ _ _ hP hS (lv_sub hl [6, 7, 8, 9, 10, 11, 5, 2] rfl) hm
  have L_116 : ∀ (s410 : St) (v409 : Int32) (H : Heap) (locs : List Loc) (ls : Array Slot), va_P D vwCl (wC y a s410) H → va_S (AC a 37 s.heap.size) s.heap H locs → lv_has ls 20 [(0, .ref z), (1, .ref (a 0)), (2, .int v409)] → mL_law_116 xs L s410 v409 = some () → W p l e room_1 s m #[Value.ref z] below meth c H locs 37 5296 (lw_Z below #[Value.ref z] s) (F0 m 116 ls []) := by
    intro s410 v409 H locs ls hP hS hl hm
    unfold mL_law_116 at hm
    refine lv_aload_n hx hb dL_law_116 rfl (lv_at hl 1 rfl) ?_
    obtain ⟨⟨r411, s413⟩, h412, hm⟩ := ok_bind hm
    refine calV_l (As := []) (rest := []) ⟨hx, hb, hml, hown, hts⟩ (kX7_digest l D y a t hI _ s410 s413 r411 h412) (cwV 0 hts (gAV aM_L_49 aI_X7_digest aS_X7_digest aN_X7 aC_X7_digest) rfl rfl rfl eX7_digest ⟨Nat.le_of_ble_eq_true rfl, Nat.le_of_ble_eq_true rfl⟩) (preV_W (ci := 7) (q := (RX7, TX7, 6)) hK hP hF hS rfl (wC_0 y a s410)) rfl hl.1 rfl (Nat.le_of_ble_eq_true rfl) dL_law_117 ⟨Nat.le_of_ble_eq_true rfl, Nat.le_of_ble_eq_true rfl⟩ hS (AC_le hS.1) (fun H locs hP hS hk1 => ?_)
    refine lv_lstore_n (lv' := [(3, .long r411), (0, .ref z), (1, .ref (a 0)), (2, .int v409)]) hx hb dL_law_120 rfl hl (by decide) rfl (fun ls hl => ?_)
    refine lv_iconst (v := 0) hx hb dL_law_121 (by decide) ?_
    refine lv_istore (lv' := [(5, .int 0), (3, .long r411), (0, .ref z), (1, .ref (a 0)), (2, .int v409)]) hx hb dL_law_122 hl (by decide) rfl (fun ls hl => ?_)
    refine lv_iconst (v := 0) hx hb dL_law_124 (by decide) ?_
    refine lv_istore (lv' := [(6, .int 0), (5, .int 0), (3, .long r411), (0, .ref z), (1, .ref (a 0)), (2, .int v409)]) hx hb dL_law_125 hl (by decide) rfl (fun ls hl => ?_)
    exact L_127 NF s413 v409 r411 0 0 _ _ _ hP hS (lv_sub hl [3, 4, 5, 2, 1, 0] rfl) hm
  have L_12 : ∀ (n : Nat) (s446 : St) (v444 : Int32) (v445 : Int32) (H : Heap) (locs : List Loc) (ls : Array Slot), va_P D vwCl (wC y a s446) H → va_S (AC a 37 s.heap.size) s.heap H locs → lv_has ls 20 [(0, .ref z), (1, .ref (a 0)), (2, .int v444), (3, .int v445)] → mL_law_12 xs L n s446 v444 v445 = some () → W p l e room_1 s m #[Value.ref z] below meth c H locs 37 5296 (lw_Z below #[Value.ref z] s) (F0 m 12 ls []) := by
    intro n
    induction n with
    | zero =>
      intro s446 v444 v445 H locs ls hP hS hl hm
      exact absurd (show (none : Option Unit) = some () from hm) (by intro h; cases h)
    | succ n ih12 =>
      obtain ⟨kh12, ekh12⟩ : ∃ z, z = mL_law_12 xs L n := ⟨_, rfl⟩
      have ih12 : ∀ (s446 : St) (v444 : Int32) (v445 : Int32) (H : Heap) (locs : List Loc) (ls : Array Slot), va_P D vwCl (wC y a s446) H → va_S (AC a 37 s.heap.size) s.heap H locs → lv_has ls 20 [(0, .ref z), (1, .ref (a 0)), (2, .int v444), (3, .int v445)] → kh12 s446 v444 v445 = some () → W p l e room_1 s m #[Value.ref z] below meth c H locs 37 5296 (lw_Z below #[Value.ref z] s) (F0 m 12 ls []) := by rw [ekh12]; exact ih12
      have L_100 : ∀ (s418 : St) (v414 : Int32) (v415 : Int32) (v416 : Int32) (v417 : Int32) (H : Heap) (locs : List Loc) (ls : Array Slot), va_P D vwCl (wC y a s418) H → va_S (AC a 37 s.heap.size) s.heap H locs → lv_has ls 20 [(0, .ref z), (1, .ref (a 0)), (3, .int v414)] → mL_law_100 xs L kh12 s418 v414 v415 v416 v417 = some () → W p l e room_1 s m #[Value.ref z] below meth c H locs 37 5296 (lw_Z below #[Value.ref z] s) (F0 m 100 ls [.int v415, .int v416, .int v417, .ref (a 0)]) := by
        intro s418 v414 v415 v416 v417 H locs ls hP hS hl hm
        unfold mL_law_100 at hm
        obtain ⟨⟨r419, s421⟩, h420, hm⟩ := ok_bind hm
        refine calV_i (As := [.int v417, .int v416, .int v415]) (rest := []) ⟨hx, hb, hml, hown, hts⟩ (kX7_make l D y a t hI _ s418 s421 v417 v416 v415 r419 h420) (cwV 3 hts (gAV aM_L_41 aI_X7_make aS_X7_make aN_X7 aC_X7_make) rfl rfl rfl eX7_make ⟨Nat.le_of_ble_eq_true rfl, Nat.le_of_ble_eq_true rfl⟩) (preV_W (ci := 7) (q := (RX7, TX7, 6)) hK hP hF hS rfl (wC_0 y a s418)) rfl hl.1 rfl (Nat.le_of_ble_eq_true rfl) dL_law_100 ⟨Nat.le_of_ble_eq_true rfl, Nat.le_of_ble_eq_true rfl⟩ hS (AC_le hS.1) (fun H locs hP hS hk1 => ?_)
        refine lv_pop hx hb dL_law_103 rfl ?_
        refine lv_aload_n hx hb dL_law_104 rfl (lv_at hl 1 rfl) ?_
        refine lv_iconst (v := 0) hx hb dL_law_105 (by decide) ?_
        obtain ⟨⟨r422, s424⟩, h423, hm⟩ := ok_bind hm
        refine calV_i (As := [.int 0]) (rest := []) ⟨hx, hb, hml, hown, hts⟩ (kX7_count l D y a t hI _ s421 s424 0 r422 h423) (cwV 1 hts (gAV aM_L_45 aI_X7_count aS_X7_count aN_X7 aC_X7_count) rfl rfl rfl eX7_count ⟨Nat.le_of_ble_eq_true rfl, Nat.le_of_ble_eq_true rfl⟩) (preV_W (ci := 7) (q := (RX7, TX7, 6)) hK hP hF hS rfl (wC_0 y a s421)) rfl hl.1 rfl (Nat.le_of_ble_eq_true rfl) dL_law_106 ⟨Nat.le_of_ble_eq_true rfl, Nat.le_of_ble_eq_true rfl⟩ hS (AC_le hS.1) (fun H locs hP hS hk1 => ?_)
        refine lv_istore_n (lv' := [(2, .int r422), (0, .ref z), (1, .ref (a 0)), (3, .int v414)]) hx hb dL_law_109 rfl hl (by decide) rfl (fun ls hl => ?_)
        obtain ⟨x425, ex425⟩ : ∃ z : Int32, z = v414 + 1 := ⟨_, rfl⟩
        have hm := bnd_x ex425 hm
        refine lv_iinc (v := x425) (lv' := [(3, .int x425), (2, .int r422), (0, .ref z), (1, .ref (a 0))]) hx hb dL_law_110 hl (k := 3) rfl (by rw [ex425]; rfl) (by decide) rfl (fun ls hl => ?_)
        refine lv_goto (tgt := 12) hx hb dL_law_113 (by decide) ?_
        exact ih12 s424 r422 x425 _ _ _ hP hS (lv_sub hl [2, 3, 1, 0] rfl) hm
      have L_83 : ∀ (s431 : St) (v426 : Int32) (v427 : Int32) (v428 : Int32) (v429 : Int32) (v430 : Int32) (H : Heap) (locs : List Loc) (ls : Array Slot), va_P D vwCl (wC y a s431) H → va_S (AC a 37 s.heap.size) s.heap H locs → lv_has ls 20 [(0, .ref z), (1, .ref (a 0)), (2, .int v426), (3, .int v427), (4, .int v428)] → mL_law_83 xs L kh12 s431 v426 v427 v428 v429 v430 = some () → W p l e room_1 s m #[Value.ref z] below meth c H locs 37 5296 (lw_Z below #[Value.ref z] s) (F0 m 83 ls [.int v429, .int v430, .ref (a 0)]) := by
        intro s431 v426 v427 v428 v429 v430 H locs ls hP hS hl hm
        unfold mL_law_83 at hm
        refine lv_iload_n hx hb dL_law_83 rfl (lv_at hl 2 rfl) ?_
        refine lv_if_ne (tgt := 91) hx hb dL_law_84 (by decide) (fun c432 => ?_) (fun c432 => ?_)
        · have hm := (if_neg c432).symm.trans hm
          refine lv_iload hx hb dL_law_91 (lv_at hl 4 rfl) ?_
          refine lv_bipush (v := 7) hx hb dL_law_93 (by decide) ?_
          refine lv_ishr hx hb dL_law_95 ?_
          refine lv_iload_n hx hb dL_law_96 rfl (lv_at hl 2 rfl) ?_
          obtain ⟨r433, h434, hm⟩ := ok_bind hm
          refine calS_i (As := [.int (v428 >>> (7 &&& 31)), .int v426]) (rest := [.int v429, .int v430, .ref (a 0)]) ⟨hx, hb, hml, hown, hts⟩ (kL_below l D y a t hI _ s431 (v428 >>> (7 &&& 31)) v426 r433 h434) (va_cwS 2 hts (gAS aM_L_37 aT_L_below aN_L aC_L_below) rfl rfl rfl eL_below ⟨Nat.le_of_ble_eq_true rfl, Nat.le_of_ble_eq_true rfl⟩) (preS_W hK hP hF hS) rfl hl.1 rfl (Nat.le_of_ble_eq_true rfl) dL_law_97 ⟨Nat.le_of_ble_eq_true rfl, Nat.le_of_ble_eq_true rfl⟩ hS (AC_le hS.1) (fun H locs hP hS hk1 => ?_)
          exact L_100 s431 v427 r433 v429 v430 _ _ _ hP hS (lv_sub hl [0, 1, 3] rfl) hm
        · have hm := (if_pos c432).symm.trans hm
          refine lv_iconst (v := 0) hx hb dL_law_87 (by decide) ?_
          refine lv_goto (tgt := 100) hx hb dL_law_88 (by decide) ?_
          exact L_100 s431 v427 0 v429 v430 _ _ _ hP hS (lv_sub hl [0, 1, 3] rfl) hm
      have L_53 : ∀ (s439 : St) (v435 : Int32) (v436 : Int32) (v437 : Int32) (v438 : Int32) (H : Heap) (locs : List Loc) (ls : Array Slot), va_P D vwCl (wC y a s439) H → va_S (AC a 37 s.heap.size) s.heap H locs → lv_has ls 20 [(0, .ref z), (1, .ref (a 0)), (2, .int v435), (3, .int v436), (4, .int v437)] → mL_law_53 xs L kh12 s439 v435 v436 v437 v438 = some () → W p l e room_1 s m #[Value.ref z] below meth c H locs 37 5296 (lw_Z below #[Value.ref z] s) (F0 m 53 ls [.int v438]) := by
        intro s439 v435 v436 v437 v438 H locs ls hP hS hl hm
        unfold mL_law_53 at hm
        refine lv_istore (lv' := [(5, .int v438), (0, .ref z), (1, .ref (a 0)), (2, .int v435), (3, .int v436), (4, .int v437)]) hx hb dL_law_53 hl (by decide) rfl (fun ls hl => ?_)
        refine lv_aload_n hx hb dL_law_55 rfl (lv_at hl 2 rfl) ?_
        refine lv_iload hx hb dL_law_56 (lv_at hl 0 rfl) ?_
        refine lv_iload_n hx hb dL_law_58 rfl (lv_at hl 4 rfl) ?_
        refine lv_iconst (v := 2) hx hb dL_law_59 (by decide) ?_
        refine lv_icmp_ge (tgt := 67) hx hb dL_law_60 (by decide) (fun c440 => ?_) (fun c440 => ?_)
        · have hm := (if_pos c440).symm.trans hm
          refine lv_iload_n hx hb dL_law_67 rfl (lv_at hl 3 rfl) ?_
          refine lv_if_ne (tgt := 75) hx hb dL_law_68 (by decide) (fun c441 => ?_) (fun c441 => ?_)
          · have hm := (if_neg c441).symm.trans hm
            refine lv_iload hx hb dL_law_75 (lv_at hl 5 rfl) ?_
            refine lv_iconst (v := 3) hx hb dL_law_77 (by decide) ?_
            refine lv_ishr hx hb dL_law_78 ?_
            refine lv_iload_n hx hb dL_law_79 rfl (lv_at hl 3 rfl) ?_
            obtain ⟨r442, h443, hm⟩ := ok_bind hm
            refine calS_i (As := [.int (v437 >>> (3 &&& 31)), .int v435]) (rest := [.int v438, .ref (a 0)]) ⟨hx, hb, hml, hown, hts⟩ (kL_below l D y a t hI _ s439 (v437 >>> (3 &&& 31)) v435 r442 h443) (va_cwS 2 hts (gAS aM_L_37 aT_L_below aN_L aC_L_below) rfl rfl rfl eL_below ⟨Nat.le_of_ble_eq_true rfl, Nat.le_of_ble_eq_true rfl⟩) (preS_W hK hP hF hS) rfl hl.1 rfl (Nat.le_of_ble_eq_true rfl) dL_law_80 ⟨Nat.le_of_ble_eq_true rfl, Nat.le_of_ble_eq_true rfl⟩ hS (AC_le hS.1) (fun H locs hP hS hk1 => ?_)
            exact L_83 s439 v435 v436 v437 r442 v438 _ _ _ hP hS (lv_sub hl [1, 2, 3, 4, 5] rfl) hm
          · have hm := (if_pos c441).symm.trans hm
            refine lv_iconst (v := 0) hx hb dL_law_71 (by decide) ?_
            refine lv_goto (tgt := 83) hx hb dL_law_72 (by decide) ?_
            exact L_83 s439 v435 v436 v437 0 v438 _ _ _ hP hS (lv_sub hl [1, 2, 3, 4, 5] rfl) hm
        · have hm := (if_neg c440).symm.trans hm
          refine lv_iload_n hx hb dL_law_63 rfl (lv_at hl 4 rfl) ?_
          refine lv_goto (tgt := 83) hx hb dL_law_64 (by decide) ?_
          exact L_83 s439 v435 v436 v437 v436 v438 _ _ _ hP hS (lv_sub hl [1, 2, 3, 4, 5] rfl) hm
      intro s446 v444 v445 H locs ls hP hS hl hm
      have hm : bL_law_12 xs L (mL_law_12 xs L n) s446 v444 v445 = some () := hm
      rw [← ekh12] at hm
      unfold bL_law_12 at hm
      refine lv_iload_n hx hb dL_law_12 rfl (lv_at hl 3 rfl) ?_
      refine lv_bipush (v := 14) hx hb dL_law_13 (by decide) ?_
      refine lv_icmp_ge (tgt := 116) hx hb dL_law_15 (by decide) (fun c447 => ?_) (fun c447 => ?_)
      · have hm := (if_pos c447).symm.trans hm
        exact L_116 s446 v444 _ _ _ hP hS (lv_sub hl [0, 1, 2] rfl) hm
      · have hm := (if_neg c447).symm.trans hm
        refine lv_aload_n hx hb dL_law_18 rfl (lv_at hl 0 rfl) ?_
        refine lv_iload_n hx hb dL_law_19 rfl (lv_at hl 3 rfl) ?_
        refine lv_bipush (v := 7) hx hb dL_law_20 (by decide) ?_
        refine lv_irem hx hb dL_law_22 (by decide) ?_
        obtain ⟨r448, h449, hm⟩ := ok_bind hm
        refine calS_i (As := [.ref z, .int (v445 - v445 / 7 * 7)]) (rest := []) ⟨hx, hb, hml, hown, hts⟩ (kL_cell l D y a t z L xs _ s446 (v445 - v445 / 7 * 7) r448 h449) (va_cwS 2 hts (gAS aM_L_33 aT_L_cell aN_L aC_L_cell) rfl rfl rfl eL_cell ⟨Nat.le_of_ble_eq_true rfl, Nat.le_of_ble_eq_true rfl⟩) (preX_W hK hP hF hS hX hzl hzA) rfl hl.1 rfl (Nat.le_of_ble_eq_true rfl) dL_law_23 ⟨Nat.le_of_ble_eq_true rfl, Nat.le_of_ble_eq_true rfl⟩ hS (AC_le hS.1) (fun H locs hP hS hk1 => ?_)
        refine lv_iload_n hx hb dL_law_26 rfl (lv_at hl 3 rfl) ?_
        refine lv_bipush (v := 7) hx hb dL_law_27 (by decide) ?_
        refine lv_idiv hx hb dL_law_29 (by decide) ?_
        refine lv_bipush (v := 11) hx hb dL_law_30 (by decide) ?_
        refine lv_imul hx hb dL_law_32 ?_
        refine lv_ishr hx hb dL_law_33 ?_
        refine lv_topi (fun x450 ex450 => ?_)
        have hm := bnd_x ex450 hm
        refine lv_istore (lv' := [(4, .int x450), (0, .ref z), (1, .ref (a 0)), (2, .int v444), (3, .int v445)]) hx hb dL_law_34 hl (by decide) rfl (fun ls hl => ?_)
        refine lv_iload_n hx hb dL_law_36 rfl (lv_at hl 4 rfl) ?_
        refine lv_iconst (v := 2) hx hb dL_law_37 (by decide) ?_
        refine lv_icmp_ge (tgt := 45) hx hb dL_law_38 (by decide) (fun c451 => ?_) (fun c451 => ?_)
        · have hm := (if_pos c451).symm.trans hm
          refine lv_iconst (v := 1) hx hb dL_law_45 (by decide) ?_
          refine lv_iload hx hb dL_law_46 (lv_at hl 0 rfl) ?_
          refine lv_iconst (v := 5) hx hb dL_law_48 (by decide) ?_
          obtain ⟨r452, h453, hm⟩ := ok_bind hm
          refine calS_i (As := [.int x450, .int 5]) (rest := [.int 1]) ⟨hx, hb, hml, hown, hts⟩ (kL_below l D y a t hI _ s446 x450 5 r452 h453) (va_cwS 2 hts (gAS aM_L_37 aT_L_below aN_L aC_L_below) rfl rfl rfl eL_below ⟨Nat.le_of_ble_eq_true rfl, Nat.le_of_ble_eq_true rfl⟩) (preS_W hK hP hF hS) rfl hl.1 rfl (Nat.le_of_ble_eq_true rfl) dL_law_49 ⟨Nat.le_of_ble_eq_true rfl, Nat.le_of_ble_eq_true rfl⟩ hS (AC_le hS.1) (fun H locs hP hS hk1 => ?_)
          refine lv_iadd hx hb dL_law_52 ?_
          exact L_53 s446 v444 v445 x450 (1 + r452) _ _ _ hP hS (lv_sub hl [1, 2, 3, 4, 0] rfl) hm
        · have hm := (if_neg c451).symm.trans hm
          refine lv_iconst (v := 0) hx hb dL_law_41 (by decide) ?_
          refine lv_goto (tgt := 53) hx hb dL_law_42 (by decide) ?_
          exact L_53 s446 v444 v445 x450 0 _ _ _ hP hS (lv_sub hl [1, 2, 3, 4, 0] rfl) hm
  unfold mL_law at hm
  refine lv_iconst (v := 0) hx hb dL_law_8 (by decide) ?_
  refine lv_istore_n (lv' := [(2, .int 0), (0, .ref z), (1, .ref (a 0))]) hx hb dL_law_9 rfl hl (by decide) rfl (fun ls hl => ?_)
  refine lv_iconst (v := 0) hx hb dL_law_10 (by decide) ?_
  refine lv_istore_n (lv' := [(3, .int 0), (2, .int 0), (0, .ref z), (1, .ref (a 0))]) hx hb dL_law_11 rfl hl (by decide) rfl (fun ls hl => ?_)
  exact L_12 NF σ 0 0 _ _ _ hP hS (lv_sub hl [2, 3, 1, 0] rfl) hm
