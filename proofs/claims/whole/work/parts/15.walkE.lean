set_option maxHeartbeats 4000000 in
set_option maxRecDepth 100000 in
theorem c_E_take (l : Launch) (D : va_G) (a : Nat → Nat) (cI cZ : ClassId) (sz : Nat) (g : St) (x1 : Int32) (x2 : Int32) (x3 : Int32) (x4 : Int32) (Q : Int32 → St → Prop) (hw : wp_E_take g x1 x2 x3 x4 Q) : MT_i l y_E_take b_E_take 8 rm_E_take (wE a cI cZ) D (ty_ cI cZ) sz g [.ref (a 0), .int x1, .int x2, .int x3, .int x4] Q := by
  refine MTi_of (by decide +kernel) (Nat.le_of_ble_eq_true rfl) ?_
  intro p e s m args below meth c A Qt ls hx hb hml hts hown hN hK hP hD hA hl hret
  have hS : va_S A s.heap s.heap [] := va_S.rf
  have hl : lv_has ls 8 [(0, .ref (a 0)), (1, .int x1), (2, .int x2), (3, .int x3), (4, .int x4)] := hl
  have k_94 : ∀ (g : St) (x1 : Int32) (x2 : Int32) (x3 : Int32) (x6 : Int32) (z0 : Int32) (H : Heap) (locs : List Loc) (ls : Array Slot), va_P D cls_ (wE a cI cZ g) H → va_D A (wE a cI cZ g) → va_S A s.heap H locs → lv_has ls 8 [(0, .ref (a 0)), (1, .int x1), (2, .int x2), (3, .int x3), (6, .int x6)] → wb_E_take_94 Q g x1 x2 x3 x6 z0 → W p l e rm_E_take s m args below meth c H locs 0 0 Qt (F0 m 94 ls [.int z0]) := by
    intro g x1 x2 x3 x6 z0 H locs ls hP hD hS hl hw
    unfold wb_E_take_94 at hw
    refine lv_istore (lv' := [(7, .int z0), (0, .ref (a 0)), (1, .int x1), (2, .int x2), (3, .int x3), (6, .int x6)]) hx hb d_E_take_94 hl (by decide) rfl (fun ls hl => ?_)
    refine lv_aload_n hx hb d_E_take_96 rfl (lv_at hl 1 rfl) ?_
    refine va_get (D := D) (ci := 4) (C := R_E) (T := F_E) (N := 11) hx hb hts in_E hown hK hP 0 rfl rfl 2 (by decide) (hts _ tb_130) (fun _ h9 => h9) rfl d_E_take_97 ?_
    refine lv_iload hx hb d_E_take_100 (lv_at hl 5 rfl) ?_
    refine lv_iload_n hx hb d_E_take_102 rfl (lv_at hl 2 rfl) ?_
    refine lv_iload_n hx hb d_E_take_103 rfl (lv_at hl 3 rfl) ?_
    refine lv_iload_n hx hb d_E_take_104 rfl (lv_at hl 4 rfl) ?_
    refine lv_aload_n hx hb d_E_take_105 rfl (lv_at hl 1 rfl) ?_
    refine va_get (D := D) (ci := 4) (C := R_E) (T := F_E) (N := 11) hx hb hts in_E hown hK hP 0 rfl rfl 8 (by decide) (hts _ tb_136) (fun _ h9 => h9) rfl d_E_take_106 ?_
    refine lv_iload hx hb d_E_take_109 (lv_at hl 0 rfl) ?_
    refine lv_iadd hx hb d_E_take_111 ?_
    refine lv_aload_n hx hb d_E_take_112 rfl (lv_at hl 1 rfl) ?_
    refine va_get (D := D) (ci := 4) (C := R_E) (T := F_E) (N := 11) hx hb hts in_E hown hK hP 0 rfl rfl 7 (by decide) (hts _ tb_135) (fun _ h9 => h9) rfl d_E_take_113 ?_
    refine aft_v (va_runVN (As := [.int x6, .int x1, .int x2, .int x3, .int ((g.2.1 8) + z0), .int (g.2.1 7)]) (rest := []) ⟨hx, hb, hml, hown, hts⟩ (c_R_open l D a cI cZ _ g x6 x1 x2 x3 ((g.2.1 8) + z0) (g.2.1 7) _ hw) ⟨(va_cnB 6 hts good_R_open rfl rfl rfl (hN _ tn_217) (hts _ tb_3) hd_R_open ⟨Nat.le_of_ble_eq_true rfl, Nat.le_of_ble_eq_true rfl⟩), hts _ tb_219, hts _ ts_11⟩ (preV 9 3 hP hD hK hN rfl rfl) rfl rfl hl.1 rfl (lv_room (Nat.le_of_ble_eq_true rfl)) d_E_take_116 ⟨Nat.zero_le _, Nat.zero_le _⟩) hD hS hA hK (fun u116 H locs hw hP hD hS => ?_)
    refine lv_goto (tgt := 145) hx hb d_E_take_119 (by decide) ?_
    refine lv_iload hx hb d_E_take_145 (lv_at hl 5 rfl) ?_
    exact hret _ _ _ _ _ _ hw hP hD hS d_E_take_147
  unfold wp_E_take at hw
  refine lv_iload_n hx hb d_E_take_0 rfl (lv_at hl 2 rfl) ?_
  refine lv_iload_n hx hb d_E_take_1 rfl (lv_at hl 3 rfl) ?_
  refine aft_i (va_runS (As := [.int x2, .int x3]) (rest := []) ⟨hx, hb, hml, hown, hts⟩ (c_E_isOnDisk l D a cI cZ _ g x2 x3 _ hw) ⟨(callB_of 2 hts good_E_isOnDisk rfl rfl rfl (hts _ tb_1) (hts _ tb_170) hd_E_isOnDisk ⟨Nat.le_of_ble_eq_true rfl, Nat.le_of_ble_eq_true rfl⟩), (hts _ tb_171)⟩ (preS hP hD hK hN) rfl rfl hl.1 rfl (lv_room (Nat.le_of_ble_eq_true rfl)) d_E_take_2 ⟨Nat.zero_le _, Nat.zero_le _⟩) hD hS hA hK (fun r2 u2 H locs hw hP hD hS => ?_)
  refine lv_if_ne (tgt := 10) hx hb d_E_take_5 (by decide) (fun hc => ?_) (fun hc => ?_)
  · replace hw := hw.1 hc
    refine lv_aload_n hx hb d_E_take_10 rfl (lv_at hl 0 rfl) ?_
    refine va_get (D := D) (ci := 4) (C := R_E) (T := F_E) (N := 11) hx hb hts in_E hown hK hP 0 rfl rfl 1 (by decide) (hts _ tb_129) (fun _ h9 => h9) rfl d_E_take_11 ?_
    refine va_getN (D := D) (ci := 2) (C := R_P) (T := F_P) (N := 7) hx hb hts in_P hown hK hP 2 rfl rfl 6 (by decide) (va_Nw.use rfl (hN _ tn_35)) (fun _ h9 => h9) rfl d_E_take_14 ?_
    refine lv_sipush (v := 200) hx hb d_E_take_17 (by decide) ?_
    refine lv_icmp_eq (tgt := 35) hx hb d_E_take_20 (by decide) (fun hc => ?_) (fun hc => ?_)
    · replace hw := hw.1 hc
      refine lv_bipush (v := (-2)) hx hb d_E_take_35 (by decide) ?_
      exact hret _ _ _ _ _ _ hw hP hD hS d_E_take_37
    · replace hw := hw.2 hc
      refine lv_aload_n hx hb d_E_take_23 rfl (lv_at hl 0 rfl) ?_
      refine va_get (D := D) (ci := 4) (C := R_E) (T := F_E) (N := 11) hx hb hts in_E hown hK hP 0 rfl rfl 2 (by decide) (hts _ tb_130) (fun _ h9 => h9) rfl d_E_take_24 ?_
      refine va_getN (D := D) (ci := 3) (C := R_R) (T := F_R) (N := 9) hx hb hts in_R hown hK hP 9 rfl rfl 8 (by decide) (va_Nw.use rfl (hN _ tn_76)) (fun _ h9 => h9) rfl d_E_take_27 ?_
      refine lv_bipush (v := 24) hx hb d_E_take_30 (by decide) ?_
      refine lv_icmp_ne (tgt := 38) hx hb d_E_take_32 (by decide) (fun hc => ?_) (fun hc => ?_)
      · replace hw := hw.1 hc
        refine lv_aload_n hx hb d_E_take_38 rfl (lv_at hl 0 rfl) ?_
        refine lv_iload_n hx hb d_E_take_39 rfl (lv_at hl 1 rfl) ?_
        refine lv_iload_n hx hb d_E_take_40 rfl (lv_at hl 2 rfl) ?_
        refine lv_iload_n hx hb d_E_take_41 rfl (lv_at hl 3 rfl) ?_
        refine aft_i (va_runV (As := [.int x1, .int x2, .int x3]) (rest := []) ⟨hx, hb, hml, hown, hts⟩ (c_E_hostFor l D a cI cZ _ u2 x1 x2 x3 _ hw) ⟨(callB_of 3 hts good_E_hostFor rfl rfl rfl (hts _ tb_1) (hts _ tb_173) hd_E_hostFor ⟨Nat.le_of_ble_eq_true rfl, Nat.le_of_ble_eq_true rfl⟩), hts _ tb_175, hts _ ts_1⟩ (preV 0 4 hP hD hK hN rfl rfl) rfl rfl hl.1 rfl (lv_room (Nat.le_of_ble_eq_true rfl)) d_E_take_42 ⟨Nat.zero_le _, Nat.zero_le _⟩) hD hS hA hK (fun r42 u42 H locs hw hP hD hS => ?_)
        refine lv_istore (lv' := [(5, .int r42), (0, .ref (a 0)), (1, .int x1), (2, .int x2), (3, .int x3), (4, .int x4)]) hx hb d_E_take_45 hl (by decide) rfl (fun ls hl => ?_)
        refine lv_aload_n hx hb d_E_take_47 rfl (lv_at hl 1 rfl) ?_
        refine va_get (D := D) (ci := 4) (C := R_E) (T := F_E) (N := 11) hx hb hts in_E hown hK hP 0 rfl rfl 1 (by decide) (hts _ tb_129) (fun _ h9 => h9) rfl d_E_take_48 ?_
        refine lv_iload_n hx hb d_E_take_51 rfl (lv_at hl 2 rfl) ?_
        refine lv_iload_n hx hb d_E_take_52 rfl (lv_at hl 3 rfl) ?_
        refine lv_iload_n hx hb d_E_take_53 rfl (lv_at hl 4 rfl) ?_
        refine lv_iload hx hb d_E_take_54 (lv_at hl 5 rfl) ?_
        refine aft_i (va_runVN (As := [.int x1, .int x2, .int x3, .int x4]) (rest := []) ⟨hx, hb, hml, hown, hts⟩ (c_P_add l D a cI cZ _ u42 x1 x2 x3 x4 _ hw) ⟨(va_cnB 4 hts good_P_add rfl rfl rfl (hN _ tn_213) (hts _ tb_2) hd_P_add ⟨Nat.le_of_ble_eq_true rfl, Nat.le_of_ble_eq_true rfl⟩), hts _ tb_215, hts _ ts_10⟩ (preV 2 2 hP hD hK hN rfl rfl) rfl rfl hl.1 rfl (lv_room (Nat.le_of_ble_eq_true rfl)) d_E_take_56 ⟨Nat.zero_le _, Nat.zero_le _⟩) hD hS hA hK (fun r56 u56 H locs hw hP hD hS => ?_)
        refine lv_istore (lv' := [(6, .int r56), (5, .int r42), (0, .ref (a 0)), (1, .int x1), (2, .int x2), (3, .int x3), (4, .int x4)]) hx hb d_E_take_59 hl (by decide) rfl (fun ls hl => ?_)
        refine lv_iload hx hb d_E_take_61 (lv_at hl 1 rfl) ?_
        refine lv_iconst (v := (-1)) hx hb d_E_take_63 (by decide) ?_
        refine lv_icmp_ne (tgt := 122) hx hb d_E_take_64 (by decide) (fun hc => ?_) (fun hc => ?_)
        · replace hw := hw.1 hc
          refine lv_aload_n hx hb d_E_take_122 rfl (lv_at hl 2 rfl) ?_
          refine va_get (D := D) (ci := 4) (C := R_E) (T := F_E) (N := 11) hx hb hts in_E hown hK hP 0 rfl rfl 1 (by decide) (hts _ tb_129) (fun _ h9 => h9) rfl d_E_take_123 ?_
          refine va_getN (D := D) (ci := 2) (C := R_P) (T := F_P) (N := 7) hx hb hts in_P hown hK hP 2 rfl rfl 3 (by decide) (va_Nw.use rfl (hN _ tn_29)) (fun _ h9 => h9) rfl d_E_take_126 ?_
          refine lv_iload hx hb d_E_take_129 (lv_at hl 0 rfl) ?_
          refine lv_iload hx hb d_E_take_131 (lv_at hl 1 rfl) ?_
          refine va_iast hx hb hK hP hD hS 6 0 rfl rfl hw.1 d_E_take_133 (fun H locs hP hD hS => ?_)
          replace hw := hw.2
          have hP : va_P D cls_ (wE a cI cZ (sA u56 4 r56.toNatClampNeg r42)) H := pA_E_4 (g := u56) (j := r56.toNatClampNeg) (x := r42) hP
          have hD : va_D A (wE a cI cZ (sA u56 4 r56.toNatClampNeg r42)) := dA_E_4 (g := u56) (j := r56.toNatClampNeg) (x := r42) hD
          generalize sA u56 4 r56.toNatClampNeg r42 = g_133 at hw hP hD
          refine lv_aload_n hx hb d_E_take_134 rfl (lv_at hl 2 rfl) ?_
          refine va_get (D := D) (ci := 4) (C := R_E) (T := F_E) (N := 11) hx hb hts in_E hown hK hP 0 rfl rfl 2 (by decide) (hts _ tb_130) (fun _ h9 => h9) rfl d_E_take_135 ?_
          refine lv_iload hx hb d_E_take_138 (lv_at hl 1 rfl) ?_
          refine lv_iload_n hx hb d_E_take_140 rfl (lv_at hl 4 rfl) ?_
          refine lv_iload_n hx hb d_E_take_141 rfl (lv_at hl 5 rfl) ?_
          refine aft_v (va_runVN (As := [.int r42, .int x2, .int x3]) (rest := []) ⟨hx, hb, hml, hown, hts⟩ (c_R_extend l D a cI cZ _ g_133 r42 x2 x3 _ hw) ⟨(va_cnB 3 hts good_R_extend rfl rfl rfl (hN _ tn_221) (hts _ tb_3) hd_R_extend ⟨Nat.le_of_ble_eq_true rfl, Nat.le_of_ble_eq_true rfl⟩), hts _ tb_223, hts _ ts_12⟩ (preV 9 3 hP hD hK hN rfl rfl) rfl rfl hl.1 rfl (lv_room (Nat.le_of_ble_eq_true rfl)) d_E_take_142 ⟨Nat.zero_le _, Nat.zero_le _⟩) hD hS hA hK (fun u142 H locs hw hP hD hS => ?_)
          refine lv_iload hx hb d_E_take_145 (lv_at hl 0 rfl) ?_
          exact hret _ _ _ _ _ _ hw hP hD hS d_E_take_147
        · replace hw := hw.2 hc
          refine lv_aload_n hx hb d_E_take_67 rfl (lv_at hl 2 rfl) ?_
          refine va_get (D := D) (ci := 4) (C := R_E) (T := F_E) (N := 11) hx hb hts in_E hown hK hP 0 rfl rfl 1 (by decide) (hts _ tb_129) (fun _ h9 => h9) rfl d_E_take_68 ?_
          refine va_getN (D := D) (ci := 2) (C := R_P) (T := F_P) (N := 7) hx hb hts in_P hown hK hP 2 rfl rfl 3 (by decide) (va_Nw.use rfl (hN _ tn_29)) (fun _ h9 => h9) rfl d_E_take_71 ?_
          refine lv_iload hx hb d_E_take_74 (lv_at hl 0 rfl) ?_
          refine lv_iload hx hb d_E_take_76 (lv_at hl 0 rfl) ?_
          refine va_iast hx hb hK hP hD hS 6 0 rfl rfl hw.1 d_E_take_78 (fun H locs hP hD hS => ?_)
          replace hw := hw.2
          have hP : va_P D cls_ (wE a cI cZ (sA u56 4 r56.toNatClampNeg r56)) H := pA_E_4 (g := u56) (j := r56.toNatClampNeg) (x := r56) hP
          have hD : va_D A (wE a cI cZ (sA u56 4 r56.toNatClampNeg r56)) := dA_E_4 (g := u56) (j := r56.toNatClampNeg) (x := r56) hD
          generalize sA u56 4 r56.toNatClampNeg r56 = g_78 at hw hP hD
          refine lv_iload_n hx hb d_E_take_79 rfl (lv_at hl 3 rfl) ?_
          refine lv_if_ne (tgt := 90) hx hb d_E_take_80 (by decide) (fun hc => ?_) (fun hc => ?_)
          · replace hw := hw.1 hc
            refine lv_aload_n hx hb d_E_take_90 rfl (lv_at hl 2 rfl) ?_
            refine va_get (D := D) (ci := 4) (C := R_E) (T := F_E) (N := 11) hx hb hts in_E hown hK hP 0 rfl rfl 6 (by decide) (hts _ tb_134) (fun _ h9 => h9) rfl d_E_take_91 ?_
            exact k_94 g_78 x1 x2 x3 r56 (g_78.2.1 6) _ _ _ hP hD hS (lv_sub hl [2, 3, 4, 5, 0] rfl) hw
          · replace hw := hw.2 hc
            refine lv_aload_n hx hb d_E_take_83 rfl (lv_at hl 2 rfl) ?_
            refine va_get (D := D) (ci := 4) (C := R_E) (T := F_E) (N := 11) hx hb hts in_E hown hK hP 0 rfl rfl 5 (by decide) (hts _ tb_133) (fun _ h9 => h9) rfl d_E_take_84 ?_
            refine lv_goto (tgt := 94) hx hb d_E_take_87 (by decide) ?_
            exact k_94 g_78 x1 x2 x3 r56 (g_78.2.1 5) _ _ _ hP hD hS (lv_sub hl [2, 3, 4, 5, 0] rfl) hw
      · replace hw := hw.2 hc
        refine lv_bipush (v := (-2)) hx hb d_E_take_35 (by decide) ?_
        exact hret _ _ _ _ _ _ hw hP hD hS d_E_take_37
  · replace hw := hw.2 hc
    refine lv_iconst (v := (-1)) hx hb d_E_take_8 (by decide) ?_
    exact hret _ _ _ _ _ _ hw hP hD hS d_E_take_9
set_option maxHeartbeats 4000000 in
set_option maxRecDepth 100000 in
theorem c_E_read (l : Launch) (D : va_G) (a : Nat → Nat) (cI cZ : ClassId) (sz : Nat) (g : St) (x1 : Int32) (x2 : Int32) (Q : Int32 → St → Prop) (hw : wp_E_read g x1 x2 Q) : MT_i l y_E_read b_E_read 3 rm_E_read (wE a cI cZ) D (ty_ cI cZ) sz g [.ref (a 0), .int x1, .int x2] Q := by
  refine MTi_of (by decide +kernel) (Nat.le_of_ble_eq_true rfl) ?_
  intro p e s m args below meth c A Qt ls hx hb hml hts hown hN hK hP hD hA hl hret
  have hS : va_S A s.heap s.heap [] := va_S.rf
  have hl : lv_has ls 3 [(0, .ref (a 0)), (1, .int x1), (2, .int x2)] := hl
  unfold wp_E_read at hw
  refine lv_aload_n hx hb d_E_read_0 rfl (lv_at hl 0 rfl) ?_
  refine lv_iconst (v := 0) hx hb d_E_read_1 (by decide) ?_
  refine lv_iload_n hx hb d_E_read_2 rfl (lv_at hl 1 rfl) ?_
  refine lv_iload_n hx hb d_E_read_3 rfl (lv_at hl 2 rfl) ?_
  refine lv_iconst (v := 0) hx hb d_E_read_4 (by decide) ?_
  refine aft_i (va_runV (As := [.int 0, .int x1, .int x2, .int 0]) (rest := []) ⟨hx, hb, hml, hown, hts⟩ (c_E_take l D a cI cZ _ g 0 x1 x2 0 _ hw) ⟨(callB_of 4 hts good_E_take rfl rfl rfl (hts _ tb_1) (hts _ tb_166) hd_E_take ⟨Nat.le_of_ble_eq_true rfl, Nat.le_of_ble_eq_true rfl⟩), hts _ tb_168, hts _ ts_0⟩ (preV 0 4 hP hD hK hN rfl rfl) rfl rfl hl.1 rfl (lv_room (Nat.le_of_ble_eq_true rfl)) d_E_read_5 ⟨Nat.zero_le _, Nat.zero_le _⟩) hD hS hA hK (fun r5 u5 H locs hw hP hD hS => ?_)
  exact hret _ _ _ _ _ _ hw hP hD hS d_E_read_8
set_option maxHeartbeats 4000000 in
set_option maxRecDepth 100000 in
theorem c_E_write (l : Launch) (D : va_G) (a : Nat → Nat) (cI cZ : ClassId) (sz : Nat) (g : St) (x1 : Int32) (x2 : Int32) (x3 : Int32) (Q : Int32 → St → Prop) (hw : wp_E_write g x1 x2 x3 Q) : MT_i l y_E_write b_E_write 4 rm_E_write (wE a cI cZ) D (ty_ cI cZ) sz g [.ref (a 0), .int x1, .int x2, .int x3] Q := by
  refine MTi_of (by decide +kernel) (Nat.le_of_ble_eq_true rfl) ?_
  intro p e s m args below meth c A Qt ls hx hb hml hts hown hN hK hP hD hA hl hret
  have hS : va_S A s.heap s.heap [] := va_S.rf
  have hl : lv_has ls 4 [(0, .ref (a 0)), (1, .int x1), (2, .int x2), (3, .int x3)] := hl
  unfold wp_E_write at hw
  refine lv_aload_n hx hb d_E_write_0 rfl (lv_at hl 0 rfl) ?_
  refine lv_iconst (v := 1) hx hb d_E_write_1 (by decide) ?_
  refine lv_iload_n hx hb d_E_write_2 rfl (lv_at hl 1 rfl) ?_
  refine lv_iload_n hx hb d_E_write_3 rfl (lv_at hl 2 rfl) ?_
  refine lv_iload_n hx hb d_E_write_4 rfl (lv_at hl 3 rfl) ?_
  refine aft_i (va_runV (As := [.int 1, .int x1, .int x2, .int x3]) (rest := []) ⟨hx, hb, hml, hown, hts⟩ (c_E_take l D a cI cZ _ g 1 x1 x2 x3 _ hw) ⟨(callB_of 4 hts good_E_take rfl rfl rfl (hts _ tb_1) (hts _ tb_166) hd_E_take ⟨Nat.le_of_ble_eq_true rfl, Nat.le_of_ble_eq_true rfl⟩), hts _ tb_168, hts _ ts_0⟩ (preV 0 4 hP hD hK hN rfl rfl) rfl rfl hl.1 rfl (lv_room (Nat.le_of_ble_eq_true rfl)) d_E_write_5 ⟨Nat.zero_le _, Nat.zero_le _⟩) hD hS hA hK (fun r5 u5 H locs hw hP hD hS => ?_)
  exact hret _ _ _ _ _ _ hw hP hD hS d_E_write_8
set_option maxHeartbeats 4000000 in
set_option maxRecDepth 100000 in
theorem c_E_barrier (l : Launch) (D : va_G) (a : Nat → Nat) (cI cZ : ClassId) (sz : Nat) (g : St) (Q : Int32 → St → Prop) (hw : wp_E_barrier g Q) : MT_i l y_E_barrier b_E_barrier 1 rm_E_barrier (wE a cI cZ) D (ty_ cI cZ) sz g [.ref (a 0)] Q := by
  refine MTi_of (by decide +kernel) (Nat.le_of_ble_eq_true rfl) ?_
  intro p e s m args below meth c A Qt ls hx hb hml hts hown hN hK hP hD hA hl hret
  have hS : va_S A s.heap s.heap [] := va_S.rf
  have hl : lv_has ls 1 [(0, .ref (a 0))] := hl
  unfold wp_E_barrier at hw
  refine lv_aload_n hx hb d_E_barrier_0 rfl (lv_at hl 0 rfl) ?_
  refine lv_dup hx hb d_E_barrier_1 rfl ?_
  refine va_get (D := D) (ci := 4) (C := R_E) (T := F_E) (N := 11) hx hb hts in_E hown hK hP 0 rfl rfl 7 (by decide) (hts _ tb_135) (fun _ h9 => h9) rfl d_E_barrier_2 ?_
  refine lv_iconst (v := 1) hx hb d_E_barrier_5 (by decide) ?_
  refine lv_iadd hx hb d_E_barrier_6 ?_
  refine va_put (v := .int ((g.2.1 7) + 1)) (ty := .int) (D := D) (ci := 4) (C := R_E) (T := F_E) (N := 11) hx hb hts in_E t_E t_E_ok n_E hown hK hP hD hS 0 rfl rfl 7 (by decide) (hts _ tb_135) (fun _ h9 => h9) rfl (by decide +kernel) rfl rfl (Nat.le_of_ble_eq_true rfl) d_E_barrier_7 (fun H locs hP hD hS => ?_)
  have hP : va_P D cls_ (wE a cI cZ (sI g 7 ((g.2.1 7) + 1))) H := pI_E_7 (g := g) (v := (g.2.1 7) + 1) hP
  have hD : va_D A (wE a cI cZ (sI g 7 ((g.2.1 7) + 1))) := dI_E_7 (g := g) (v := (g.2.1 7) + 1) hD
  generalize sI g 7 ((g.2.1 7) + 1) = g_7 at hw hP hD
  refine lv_aload_n hx hb d_E_barrier_10 rfl (lv_at hl 0 rfl) ?_
  refine va_get (D := D) (ci := 4) (C := R_E) (T := F_E) (N := 11) hx hb hts in_E hown hK hP 0 rfl rfl 7 (by decide) (hts _ tb_135) (fun _ h9 => h9) rfl d_E_barrier_11 ?_
  exact hret _ _ _ _ _ _ hw hP hD hS d_E_barrier_14
set_option maxHeartbeats 4000000 in
set_option maxRecDepth 100000 in
theorem c_E_isWithin (l : Launch) (D : va_G) (a : Nat → Nat) (cI cZ : ClassId) (sz : Nat) (g : St) (x0 : Int32) (x1 : Int32) (Q : Int32 → St → Prop) (hw : wp_E_isWithin g x0 x1 Q) : MT_z l y_E_isWithin b_E_isWithin 2 rm_E_isWithin (wE a cI cZ) D (ty_ cI cZ) sz g [.int x0, .int x1] Q := by
  refine MTz_of (by decide +kernel) (Nat.le_of_ble_eq_true rfl) ?_
  intro p e s m args below meth c A Qt ls hx hb hml hts hown hN hK hP hD hA hl hret
  have hS : va_S A s.heap s.heap [] := va_S.rf
  have hl : lv_has ls 2 [(0, .int x0), (1, .int x1)] := hl
  unfold wp_E_isWithin at hw
  refine lv_iload_n hx hb d_E_isWithin_0 rfl (lv_at hl 0 rfl) ?_
  refine lv_if_lt (tgt := 13) hx hb d_E_isWithin_1 (by decide) (fun hc => ?_) (fun hc => ?_)
  · replace hw := hw.1 hc
    refine lv_iconst (v := 0) hx hb d_E_isWithin_13 (by decide) ?_
    exact hret _ _ _ _ _ _ rfl hw hP hD hS d_E_isWithin_14
  · replace hw := hw.2 hc
    refine lv_iload_n hx hb d_E_isWithin_4 rfl (lv_at hl 0 rfl) ?_
    refine lv_iload_n hx hb d_E_isWithin_5 rfl (lv_at hl 1 rfl) ?_
    refine lv_icmp_gt (tgt := 13) hx hb d_E_isWithin_6 (by decide) (fun hc => ?_) (fun hc => ?_)
    · replace hw := hw.1 hc
      refine lv_iconst (v := 0) hx hb d_E_isWithin_13 (by decide) ?_
      exact hret _ _ _ _ _ _ rfl hw hP hD hS d_E_isWithin_14
    · replace hw := hw.2 hc
      refine lv_iconst (v := 1) hx hb d_E_isWithin_9 (by decide) ?_
      refine lv_goto (tgt := 14) hx hb d_E_isWithin_10 (by decide) ?_
      exact hret _ _ _ _ _ _ rfl hw hP hD hS d_E_isWithin_14
set_option maxHeartbeats 4000000 in
set_option maxRecDepth 100000 in
theorem c_E_expire (l : Launch) (D : va_G) (a : Nat → Nat) (cI cZ : ClassId) (sz : Nat) (g : St) (x1 : Int32) (x2 : Int32) (Q : Int32 → St → Prop) (hw : wp_E_expire g x1 x2 Q) : MT_z l y_E_expire b_E_expire 4 rm_E_expire (wE a cI cZ) D (ty_ cI cZ) sz g [.ref (a 0), .int x1, .int x2] Q := by
  refine MTz_of (by decide +kernel) (Nat.le_of_ble_eq_true rfl) ?_
  intro p e s m args below meth c A Qt ls hx hb hml hts hown hN hK hP hD hA hl hret
  have hS : va_S A s.heap s.heap [] := va_S.rf
  have hl : lv_has ls 4 [(0, .ref (a 0)), (1, .int x1), (2, .int x2)] := hl
  have k_25 : ∀ (g : St) (x1 : Int32) (x2 : Int32) (z0 : Int32) (H : Heap) (locs : List Loc) (ls : Array Slot), va_P D cls_ (wE a cI cZ g) H → va_D A (wE a cI cZ g) → va_S A s.heap H locs → lv_has ls 4 [(0, .ref (a 0)), (1, .int x1), (2, .int x2)] → wb_E_expire_25 Q g x1 x2 z0 → W p l e rm_E_expire s m args below meth c H locs 0 0 Qt (F0 m 25 ls [.int z0]) := by
    intro g x1 x2 z0 H locs ls hP hD hS hl hw
    unfold wb_E_expire_25 at hw
    refine lv_istore_n (lv' := [(3, .int z0), (0, .ref (a 0)), (1, .int x1), (2, .int x2)]) hx hb d_E_expire_25 rfl hl (by decide) rfl (fun ls hl => ?_)
    refine lv_aload_n hx hb d_E_expire_26 rfl (lv_at hl 1 rfl) ?_
    refine va_get (D := D) (ci := 4) (C := R_E) (T := F_E) (N := 11) hx hb hts in_E hown hK hP 0 rfl rfl 2 (by decide) (hts _ tb_130) (fun _ h9 => h9) rfl d_E_expire_27 ?_
    refine va_getN (D := D) (ci := 3) (C := R_R) (T := F_R) (N := 9) hx hb hts in_R hown hK hP 9 rfl rfl 8 (by decide) (va_Nw.use rfl (hN _ tn_76)) (fun _ h9 => h9) rfl d_E_expire_30 ?_
    refine lv_if_gt (tgt := 40) hx hb d_E_expire_33 (by decide) (fun hc => ?_) (fun hc => ?_)
    · replace hw := hw.1 hc
      refine lv_iconst (v := 0) hx hb d_E_expire_40 (by decide) ?_
      exact hret _ _ _ _ _ _ rfl hw hP hD hS d_E_expire_41
    · replace hw := hw.2 hc
      refine lv_iload_n hx hb d_E_expire_36 rfl (lv_at hl 0 rfl) ?_
      refine lv_if_ne (tgt := 42) hx hb d_E_expire_37 (by decide) (fun hc => ?_) (fun hc => ?_)
      · replace hw := hw.1 hc
        refine lv_aload_n hx hb d_E_expire_42 rfl (lv_at hl 1 rfl) ?_
        refine lv_iload_n hx hb d_E_expire_43 rfl (lv_at hl 2 rfl) ?_
        refine va_put (v := .int x1) (ty := .int) (D := D) (ci := 4) (C := R_E) (T := F_E) (N := 11) hx hb hts in_E t_E t_E_ok n_E hown hK hP hD hS 0 rfl rfl 5 (by decide) (hts _ tb_133) (fun _ h9 => h9) rfl (by decide +kernel) rfl rfl (Nat.le_of_ble_eq_true rfl) d_E_expire_44 (fun H locs hP hD hS => ?_)
        have hP : va_P D cls_ (wE a cI cZ (sI g 5 x1)) H := pI_E_5 (g := g) (v := x1) hP
        have hD : va_D A (wE a cI cZ (sI g 5 x1)) := dI_E_5 (g := g) (v := x1) hD
        generalize sI g 5 x1 = g_44 at hw hP hD
        refine lv_aload_n hx hb d_E_expire_47 rfl (lv_at hl 1 rfl) ?_
        refine lv_iload_n hx hb d_E_expire_48 rfl (lv_at hl 3 rfl) ?_
        refine va_put (v := .int x2) (ty := .int) (D := D) (ci := 4) (C := R_E) (T := F_E) (N := 11) hx hb hts in_E t_E t_E_ok n_E hown hK hP hD hS 0 rfl rfl 6 (by decide) (hts _ tb_134) (fun _ h9 => h9) rfl (by decide +kernel) rfl rfl (Nat.le_of_ble_eq_true rfl) d_E_expire_49 (fun H locs hP hD hS => ?_)
        have hP : va_P D cls_ (wE a cI cZ (sI g_44 6 x2)) H := pI_E_6 (g := g_44) (v := x2) hP
        have hD : va_D A (wE a cI cZ (sI g_44 6 x2)) := dI_E_6 (g := g_44) (v := x2) hD
        generalize sI g_44 6 x2 = g_49 at hw hP hD
        refine lv_iconst (v := 1) hx hb d_E_expire_52 (by decide) ?_
        exact hret _ _ _ _ _ _ rfl hw hP hD hS d_E_expire_53
      · replace hw := hw.2 hc
        refine lv_iconst (v := 0) hx hb d_E_expire_40 (by decide) ?_
        exact hret _ _ _ _ _ _ rfl hw hP hD hS d_E_expire_41
  unfold wp_E_expire at hw
  refine lv_iload_n hx hb d_E_expire_0 rfl (lv_at hl 1 rfl) ?_
  refine lv_sipush (v := 10000) hx hb d_E_expire_1 (by decide) ?_
  refine aft_i (va_runS (As := [.int x1, .int 10000]) (rest := []) ⟨hx, hb, hml, hown, hts⟩ (c_E_isWithin l D a cI cZ _ g x1 10000 _ hw) ⟨(callB_of 2 hts good_E_isWithin rfl rfl rfl (hts _ tb_1) (hts _ tb_240) hd_E_isWithin ⟨Nat.le_of_ble_eq_true rfl, Nat.le_of_ble_eq_true rfl⟩), (hts _ tb_241)⟩ (preS hP hD hK hN) rfl rfl hl.1 rfl (lv_room (Nat.le_of_ble_eq_true rfl)) d_E_expire_4 ⟨Nat.zero_le _, Nat.zero_le _⟩) hD hS hA hK (fun r4 u4 H locs hw hP hD hS => ?_)
  refine lv_if_eq (tgt := 24) hx hb d_E_expire_7 (by decide) (fun hc => ?_) (fun hc => ?_)
  · replace hw := hw.1 hc
    refine lv_iconst (v := 0) hx hb d_E_expire_24 (by decide) ?_
    exact k_25 u4 x1 x2 0 _ _ _ hP hD hS (lv_sub hl [0, 1, 2] rfl) hw
  · replace hw := hw.2 hc
    refine lv_iload_n hx hb d_E_expire_10 rfl (lv_at hl 2 rfl) ?_
    refine lv_sipush (v := 10000) hx hb d_E_expire_11 (by decide) ?_
    refine aft_i (va_runS (As := [.int x2, .int 10000]) (rest := []) ⟨hx, hb, hml, hown, hts⟩ (c_E_isWithin l D a cI cZ _ u4 x2 10000 _ hw) ⟨(callB_of 2 hts good_E_isWithin rfl rfl rfl (hts _ tb_1) (hts _ tb_240) hd_E_isWithin ⟨Nat.le_of_ble_eq_true rfl, Nat.le_of_ble_eq_true rfl⟩), (hts _ tb_241)⟩ (preS hP hD hK hN) rfl rfl hl.1 rfl (lv_room (Nat.le_of_ble_eq_true rfl)) d_E_expire_14 ⟨Nat.zero_le _, Nat.zero_le _⟩) hD hS hA hK (fun r14 u14 H locs hw hP hD hS => ?_)
    refine lv_if_eq (tgt := 24) hx hb d_E_expire_17 (by decide) (fun hc => ?_) (fun hc => ?_)
    · replace hw := hw.1 hc
      refine lv_iconst (v := 0) hx hb d_E_expire_24 (by decide) ?_
      exact k_25 u14 x1 x2 0 _ _ _ hP hD hS (lv_sub hl [0, 1, 2] rfl) hw
    · replace hw := hw.2 hc
      refine lv_iconst (v := 1) hx hb d_E_expire_20 (by decide) ?_
      refine lv_goto (tgt := 25) hx hb d_E_expire_21 (by decide) ?_
      exact k_25 u14 x1 x2 1 _ _ _ hP hD hS (lv_sub hl [0, 1, 2] rfl) hw
set_option maxHeartbeats 4000000 in
set_option maxRecDepth 100000 in
theorem c_E_tick (l : Launch) (D : va_G) (a : Nat → Nat) (cI cZ : ClassId) (sz : Nat) (g : St) (x1 : Int32) (Q : Int32 → St → Prop) (hw : wp_E_tick g x1 Q) : MT_z l y_E_tick b_E_tick 2 rm_E_tick (wE a cI cZ) D (ty_ cI cZ) sz g [.ref (a 0), .int x1] Q := by
  refine MTz_of (by decide +kernel) (Nat.le_of_ble_eq_true rfl) ?_
  intro p e s m args below meth c A Qt ls hx hb hml hts hown hN hK hP hD hA hl hret
  have hS : va_S A s.heap s.heap [] := va_S.rf
  have hl : lv_has ls 2 [(0, .ref (a 0)), (1, .int x1)] := hl
  unfold wp_E_tick at hw
  refine lv_iload_n hx hb d_E_tick_0 rfl (lv_at hl 1 rfl) ?_
  refine lv_ldc hx hb hown (hts _ tb_247) d_E_tick_1 ?_
  refine aft_i (va_runS (As := [.int x1, .int 100000]) (rest := []) ⟨hx, hb, hml, hown, hts⟩ (c_E_isWithin l D a cI cZ _ g x1 100000 _ hw) ⟨(callB_of 2 hts good_E_isWithin rfl rfl rfl (hts _ tb_1) (hts _ tb_240) hd_E_isWithin ⟨Nat.le_of_ble_eq_true rfl, Nat.le_of_ble_eq_true rfl⟩), (hts _ tb_241)⟩ (preS hP hD hK hN) rfl rfl hl.1 rfl (lv_room (Nat.le_of_ble_eq_true rfl)) d_E_tick_3 ⟨Nat.zero_le _, Nat.zero_le _⟩) hD hS hA hK (fun r3 u3 H locs hw hP hD hS => ?_)
  refine lv_if_ne (tgt := 11) hx hb d_E_tick_6 (by decide) (fun hc => ?_) (fun hc => ?_)
  · replace hw := hw.1 hc
    refine lv_aload_n hx hb d_E_tick_11 rfl (lv_at hl 0 rfl) ?_
    refine lv_dup hx hb d_E_tick_12 rfl ?_
    refine va_get (D := D) (ci := 4) (C := R_E) (T := F_E) (N := 11) hx hb hts in_E hown hK hP 0 rfl rfl 8 (by decide) (hts _ tb_136) (fun _ h9 => h9) rfl d_E_tick_13 ?_
    refine lv_iload_n hx hb d_E_tick_16 rfl (lv_at hl 1 rfl) ?_
    refine lv_iadd hx hb d_E_tick_17 ?_
    refine va_put (v := .int ((u3.2.1 8) + x1)) (ty := .int) (D := D) (ci := 4) (C := R_E) (T := F_E) (N := 11) hx hb hts in_E t_E t_E_ok n_E hown hK hP hD hS 0 rfl rfl 8 (by decide) (hts _ tb_136) (fun _ h9 => h9) rfl (by decide +kernel) rfl rfl (Nat.le_of_ble_eq_true rfl) d_E_tick_18 (fun H locs hP hD hS => ?_)
    have hP : va_P D cls_ (wE a cI cZ (sI u3 8 ((u3.2.1 8) + x1))) H := pI_E_8 (g := u3) (v := (u3.2.1 8) + x1) hP
    have hD : va_D A (wE a cI cZ (sI u3 8 ((u3.2.1 8) + x1))) := dI_E_8 (g := u3) (v := (u3.2.1 8) + x1) hD
    generalize sI u3 8 ((u3.2.1 8) + x1) = g_18 at hw hP hD
    refine lv_iconst (v := 1) hx hb d_E_tick_21 (by decide) ?_
    exact hret _ _ _ _ _ _ rfl hw hP hD hS d_E_tick_22
  · replace hw := hw.2 hc
    refine lv_iconst (v := 0) hx hb d_E_tick_9 (by decide) ?_
    exact hret _ _ _ _ _ _ rfl hw hP hD hS d_E_tick_10
set_option maxHeartbeats 4000000 in
set_option maxRecDepth 100000 in
theorem c_E_markReady (l : Launch) (D : va_G) (a : Nat → Nat) (cI cZ : ClassId) (sz : Nat) (g : St) (Q : St → Prop) (hw : wp_E_markReady g Q) : MT_v l y_E_markReady b_E_markReady 4 rm_E_markReady (wE a cI cZ) D (ty_ cI cZ) sz g [.ref (a 0)] Q := by
  refine MTv_of (by decide +kernel) (Nat.le_of_ble_eq_true rfl) ?_
  intro p e s m args below meth c A Qt ls hx hb hml hts hown hN hK hP hD hA hl hret
  have hS : va_S A s.heap s.heap [] := va_S.rf
  have hl : lv_has ls 4 [(0, .ref (a 0))] := hl
  have k_16 : ∀ (n : Nat) (g : St) (x1 : Int32) (H : Heap) (locs : List Loc) (ls : Array Slot), va_P D cls_ (wE a cI cZ g) H → va_D A (wE a cI cZ g) → va_S A s.heap H locs → lv_has ls 4 [(0, .ref (a 0)), (1, .int x1)] → wl_E_markReady_16 Q n g x1 → W p l e rm_E_markReady s m args below meth c H locs 0 0 Qt (F0 m 16 ls []) := by
    intro n
    induction n with
    | zero => intro g x1 H locs ls hP hD hS hl hw; exact False.elim hw
    | succ n_16 ih_16 =>
      have k_86 : ∀ (g : St) (x1 : Int32) (x2 : Int64) (H : Heap) (locs : List Loc) (ls : Array Slot), va_P D cls_ (wE a cI cZ g) H → va_D A (wE a cI cZ g) → va_S A s.heap H locs → lv_has ls 4 [(0, .ref (a 0)), (1, .int x1), (2, .long x2)] → wb_E_markReady_86 (wl_E_markReady_16 Q n_16) Q g x1 x2 → W p l e rm_E_markReady s m args below meth c H locs 0 0 Qt (F0 m 86 ls []) := by
        intro g x1 x2 H locs ls hP hD hS hl hw
        unfold wb_E_markReady_86 at hw
        refine lv_aload_n hx hb d_E_markReady_86 rfl (lv_at hl 0 rfl) ?_
        refine va_get (D := D) (ci := 4) (C := R_E) (T := F_E) (N := 11) hx hb hts in_E hown hK hP 0 rfl rfl 3 (by decide) (hts _ tb_131) (fun _ h9 => h9) rfl d_E_markReady_87 ?_
        refine lv_aload_n hx hb d_E_markReady_90 rfl (lv_at hl 0 rfl) ?_
        refine va_get (D := D) (ci := 4) (C := R_E) (T := F_E) (N := 11) hx hb hts in_E hown hK hP 0 rfl rfl 1 (by decide) (hts _ tb_129) (fun _ h9 => h9) rfl d_E_markReady_91 ?_
        refine va_getN (D := D) (ci := 2) (C := R_P) (T := F_P) (N := 7) hx hb hts in_P hown hK hP 2 rfl rfl 0 (by decide) (va_Nw.use rfl (hN _ tn_24)) (fun _ h9 => h9) rfl d_E_markReady_94 ?_
        refine lv_iload_n hx hb d_E_markReady_97 rfl (lv_at hl 1 rfl) ?_
        refine va_iald hx hb hK hP 3 0 rfl rfl hw.1 d_E_markReady_98 ?_
        replace hw := hw.2
        refine lv_lload_n hx hb d_E_markReady_99 rfl (lv_at hl 2 rfl) ?_
        refine aft_v (va_runVN (As := [.int (g.1 1 x1.toNatClampNeg), .long x2]) (rest := []) ⟨hx, hb, hml, hown, hts⟩ (c_C_add l D a cI cZ _ g (g.1 1 x1.toNatClampNeg) x2 _ hw) ⟨(va_cnB 2 hts good_C_add rfl rfl rfl (hN _ tn_192) (hts _ tb_4) hd_C_add ⟨Nat.le_of_ble_eq_true rfl, Nat.le_of_ble_eq_true rfl⟩), hts _ tb_194, hts _ ts_5⟩ (preV 18 1 hP hD hK hN rfl rfl) rfl rfl hl.1 rfl (lv_room (Nat.le_of_ble_eq_true rfl)) d_E_markReady_100 ⟨Nat.zero_le _, Nat.zero_le _⟩) hD hS hA hK (fun u100 H locs hw hP hD hS => ?_)
        refine lv_iinc (k := 1) (v := x1 + 1) (lv' := [(1, .int (x1 + 1)), (0, .ref (a 0)), (2, .long x2)]) hx hb d_E_markReady_103 hl rfl rfl (by decide) rfl (fun ls hl => ?_)
        refine lv_goto (tgt := 16) hx hb d_E_markReady_106 (by decide) ?_
        exact ih_16 u100 (x1 + 1) _ _ _ hP hD hS (lv_sub hl [1, 0] rfl) hw
      intro g x1 H locs ls hP hD hS hl hw
      unfold wl_E_markReady_16 at hw
      refine lv_iload_n hx hb d_E_markReady_16 rfl (lv_at hl 1 rfl) ?_
      refine lv_aload_n hx hb d_E_markReady_17 rfl (lv_at hl 0 rfl) ?_
      refine va_get (D := D) (ci := 4) (C := R_E) (T := F_E) (N := 11) hx hb hts in_E hown hK hP 0 rfl rfl 1 (by decide) (hts _ tb_129) (fun _ h9 => h9) rfl d_E_markReady_18 ?_
      refine va_getN (D := D) (ci := 2) (C := R_P) (T := F_P) (N := 7) hx hb hts in_P hown hK hP 2 rfl rfl 6 (by decide) (va_Nw.use rfl (hN _ tn_35)) (fun _ h9 => h9) rfl d_E_markReady_21 ?_
      refine lv_icmp_ge (tgt := 109) hx hb d_E_markReady_24 (by decide) (fun hc => ?_) (fun hc => ?_)
      · replace hw := hw.1 hc
        exact hret _ _ _ _ _ hw hP hD hS d_E_markReady_109
      · replace hw := hw.2 hc
        refine lv_aload_n hx hb d_E_markReady_27 rfl (lv_at hl 0 rfl) ?_
        refine va_get (D := D) (ci := 4) (C := R_E) (T := F_E) (N := 11) hx hb hts in_E hown hK hP 0 rfl rfl 1 (by decide) (hts _ tb_129) (fun _ h9 => h9) rfl d_E_markReady_28 ?_
        refine va_getN (D := D) (ci := 2) (C := R_P) (T := F_P) (N := 7) hx hb hts in_P hown hK hP 2 rfl rfl 4 (by decide) (va_Nw.use rfl (hN _ tn_31)) (fun _ h9 => h9) rfl d_E_markReady_31 ?_
        refine lv_iload_n hx hb d_E_markReady_34 rfl (lv_at hl 1 rfl) ?_
        refine va_zald hx hb hK hP 7 1 rfl rfl hw.1 d_E_markReady_35 ?_
        replace hw := hw.2
        refine lv_if_ne (tgt := 103) hx hb d_E_markReady_36 (by decide) (fun hc => ?_) (fun hc => ?_)
        · replace hw := hw.1 hc
          refine lv_iinc (k := 1) (v := x1 + 1) (lv' := [(1, .int (x1 + 1)), (0, .ref (a 0))]) hx hb d_E_markReady_103 hl rfl rfl (by decide) rfl (fun ls hl => ?_)
          refine lv_goto (tgt := 16) hx hb d_E_markReady_106 (by decide) ?_
          exact ih_16 g (x1 + 1) _ _ _ hP hD hS (lv_sub hl [1, 0] rfl) hw
        · replace hw := hw.2 hc
          refine lv_aload_n hx hb d_E_markReady_39 rfl (lv_at hl 0 rfl) ?_
          refine va_get (D := D) (ci := 4) (C := R_E) (T := F_E) (N := 11) hx hb hts in_E hown hK hP 0 rfl rfl 1 (by decide) (hts _ tb_129) (fun _ h9 => h9) rfl d_E_markReady_40 ?_
          refine lv_iload_n hx hb d_E_markReady_43 rfl (lv_at hl 1 rfl) ?_
          refine aft_l (va_runVN (As := [.int x1]) (rest := []) ⟨hx, hb, hml, hown, hts⟩ (c_P_sectors l D a cI cZ _ g x1 _ hw) ⟨(va_cnB 1 hts good_P_sectors rfl rfl rfl (hN _ tn_185) (hts _ tb_2) hd_P_sectors ⟨Nat.le_of_ble_eq_true rfl, Nat.le_of_ble_eq_true rfl⟩), hts _ tb_187, hts _ ts_4⟩ (preV 2 2 hP hD hK hN rfl rfl) rfl rfl hl.1 rfl (lv_room (Nat.le_of_ble_eq_true rfl)) d_E_markReady_44 ⟨Nat.zero_le _, Nat.zero_le _⟩) hD hS hA hK (fun r44 u44 H locs hw hP hD hS => ?_)
          refine lv_lstore_n (lv' := [(2, .long r44), (0, .ref (a 0)), (1, .int x1)]) hx hb d_E_markReady_47 rfl hl (by decide) rfl (fun ls hl => ?_)
          refine lv_aload_n hx hb d_E_markReady_48 rfl (lv_at hl 1 rfl) ?_
          refine va_get (D := D) (ci := 4) (C := R_E) (T := F_E) (N := 11) hx hb hts in_E hown hK hP 0 rfl rfl 3 (by decide) (hts _ tb_131) (fun _ h9 => h9) rfl d_E_markReady_49 ?_
          refine lv_aload_n hx hb d_E_markReady_52 rfl (lv_at hl 1 rfl) ?_
          refine va_get (D := D) (ci := 4) (C := R_E) (T := F_E) (N := 11) hx hb hts in_E hown hK hP 0 rfl rfl 1 (by decide) (hts _ tb_129) (fun _ h9 => h9) rfl d_E_markReady_53 ?_
          refine va_getN (D := D) (ci := 2) (C := R_P) (T := F_P) (N := 7) hx hb hts in_P hown hK hP 2 rfl rfl 0 (by decide) (va_Nw.use rfl (hN _ tn_24)) (fun _ h9 => h9) rfl d_E_markReady_56 ?_
          refine lv_iload_n hx hb d_E_markReady_59 rfl (lv_at hl 2 rfl) ?_
          refine va_iald hx hb hK hP 3 0 rfl rfl hw.1 d_E_markReady_60 ?_
          replace hw := hw.2
          refine lv_lload_n hx hb d_E_markReady_61 rfl (lv_at hl 0 rfl) ?_
          refine aft_i (va_runVN (As := [.int (u44.1 1 x1.toNatClampNeg), .long r44]) (rest := []) ⟨hx, hb, hml, hown, hts⟩ (c_C_conflictWith l D a cI cZ _ u44 (u44.1 1 x1.toNatClampNeg) r44 _ hw) ⟨(va_cnB 2 hts good_C_conflictWith rfl rfl rfl (hN _ tn_197) (hts _ tb_4) hd_C_conflictWith ⟨Nat.le_of_ble_eq_true rfl, Nat.le_of_ble_eq_true rfl⟩), hts _ tb_199, hts _ ts_6⟩ (preV 18 1 hP hD hK hN rfl rfl) rfl rfl hl.1 rfl (lv_room (Nat.le_of_ble_eq_true rfl)) d_E_markReady_62 ⟨Nat.zero_le _, Nat.zero_le _⟩) hD hS hA hK (fun r62 u62 H locs hw hP hD hS => ?_)
          refine lv_if_eq (tgt := 86) hx hb d_E_markReady_65 (by decide) (fun hc => ?_) (fun hc => ?_)
          · replace hw := hw.1 hc
            exact k_86 u62 x1 r44 _ _ _ hP hD hS (lv_sub hl [1, 2, 0] rfl) hw
          · replace hw := hw.2 hc
            refine lv_aload_n hx hb d_E_markReady_68 rfl (lv_at hl 1 rfl) ?_
            refine va_get (D := D) (ci := 4) (C := R_E) (T := F_E) (N := 11) hx hb hts in_E hown hK hP 0 rfl rfl 2 (by decide) (hts _ tb_130) (fun _ h9 => h9) rfl d_E_markReady_69 ?_
            refine va_getN (D := D) (ci := 3) (C := R_R) (T := F_R) (N := 9) hx hb hts in_R hown hK hP 9 rfl rfl 6 (by decide) (va_Nw.use rfl (hN _ tn_72)) (fun _ h9 => h9) rfl d_E_markReady_72 ?_
            refine lv_aload_n hx hb d_E_markReady_75 rfl (lv_at hl 1 rfl) ?_
            refine va_get (D := D) (ci := 4) (C := R_E) (T := F_E) (N := 11) hx hb hts in_E hown hK hP 0 rfl rfl 1 (by decide) (hts _ tb_129) (fun _ h9 => h9) rfl d_E_markReady_76 ?_
            refine va_getN (D := D) (ci := 2) (C := R_P) (T := F_P) (N := 7) hx hb hts in_P hown hK hP 2 rfl rfl 3 (by decide) (va_Nw.use rfl (hN _ tn_29)) (fun _ h9 => h9) rfl d_E_markReady_79 ?_
            refine lv_iload_n hx hb d_E_markReady_82 rfl (lv_at hl 2 rfl) ?_
            refine va_iald hx hb hK hP 6 0 rfl rfl hw.1 d_E_markReady_83 ?_
            replace hw := hw.2
            refine lv_iconst (v := 0) hx hb d_E_markReady_84 (by decide) ?_
            refine va_zast hx hb hK hP hD hS 16 1 rfl rfl hw.1 d_E_markReady_85 (fun H locs hP hD hS => ?_)
            replace hw := hw.2
            have hP : va_P D cls_ (wE a cI cZ (sA u62 13 (u62.1 4 x1.toNatClampNeg).toNatClampNeg (vp_nar .boolean 0))) H := pA_E_13 (g := u62) (j := (u62.1 4 x1.toNatClampNeg).toNatClampNeg) (x := (vp_nar .boolean 0)) hP
            have hD : va_D A (wE a cI cZ (sA u62 13 (u62.1 4 x1.toNatClampNeg).toNatClampNeg (vp_nar .boolean 0))) := dA_E_13 (g := u62) (j := (u62.1 4 x1.toNatClampNeg).toNatClampNeg) (x := (vp_nar .boolean 0)) hD
            generalize sA u62 13 (u62.1 4 x1.toNatClampNeg).toNatClampNeg (vp_nar .boolean 0) = g_85 at hw hP hD
            exact k_86 g_85 x1 r44 _ _ _ hP hD hS (lv_sub hl [1, 2, 0] rfl) hw
  unfold wp_E_markReady at hw
  refine lv_aload_n hx hb d_E_markReady_0 rfl (lv_at hl 0 rfl) ?_
  refine va_get (D := D) (ci := 4) (C := R_E) (T := F_E) (N := 11) hx hb hts in_E hown hK hP 0 rfl rfl 2 (by decide) (hts _ tb_130) (fun _ h9 => h9) rfl d_E_markReady_1 ?_
  refine aft_v (va_runVN (As := []) (rest := []) ⟨hx, hb, hml, hown, hts⟩ (c_R_markLeastGroup l D a cI cZ _ g _ hw) ⟨(va_cnB 0 hts good_R_markLeastGroup rfl rfl rfl (hN _ tn_256) (hts _ tb_3) hd_R_markLeastGroup ⟨Nat.le_of_ble_eq_true rfl, Nat.le_of_ble_eq_true rfl⟩), hts _ tb_258, hts _ ts_14⟩ (preV 9 3 hP hD hK hN rfl rfl) rfl rfl hl.1 rfl (lv_room (Nat.le_of_ble_eq_true rfl)) d_E_markReady_4 ⟨Nat.zero_le _, Nat.zero_le _⟩) hD hS hA hK (fun u4 H locs hw hP hD hS => ?_)
  refine lv_aload_n hx hb d_E_markReady_7 rfl (lv_at hl 0 rfl) ?_
  refine va_get (D := D) (ci := 4) (C := R_E) (T := F_E) (N := 11) hx hb hts in_E hown hK hP 0 rfl rfl 3 (by decide) (hts _ tb_131) (fun _ h9 => h9) rfl d_E_markReady_8 ?_
  refine aft_v (va_runVN (As := []) (rest := []) ⟨hx, hb, hml, hown, hts⟩ (c_C_clear l D a cI cZ _ u4 _ hw) ⟨(va_cnB 0 hts good_C_clear rfl rfl rfl (hN _ tn_181) (hts _ tb_4) hd_C_clear ⟨Nat.le_of_ble_eq_true rfl, Nat.le_of_ble_eq_true rfl⟩), hts _ tb_183, hts _ ts_3⟩ (preV 18 1 hP hD hK hN rfl rfl) rfl rfl hl.1 rfl (lv_room (Nat.le_of_ble_eq_true rfl)) d_E_markReady_11 ⟨Nat.zero_le _, Nat.zero_le _⟩) hD hS hA hK (fun u11 H locs hw hP hD hS => ?_)
  refine lv_iconst (v := 0) hx hb d_E_markReady_14 (by decide) ?_
  refine lv_istore_n (lv' := [(1, .int 0), (0, .ref (a 0))]) hx hb d_E_markReady_15 rfl hl (by decide) rfl (fun ls hl => ?_)
  obtain ⟨n, hw⟩ := hw
  exact k_16 n u11 0 _ _ _ hP hD hS (lv_sub hl [1, 0] rfl) hw
set_option maxHeartbeats 4000000 in
set_option maxRecDepth 100000 in
theorem c_E_firstOfBatch (l : Launch) (D : va_G) (a : Nat → Nat) (cI cZ : ClassId) (sz : Nat) (g : St) (x1 : Int32) (Q : Int32 → St → Prop) (hw : wp_E_firstOfBatch g x1 Q) : MT_i l y_E_firstOfBatch b_E_firstOfBatch 4 rm_E_firstOfBatch (wE a cI cZ) D (ty_ cI cZ) sz g [.ref (a 0), .int x1] Q := by
  refine MTi_of (by decide +kernel) (Nat.le_of_ble_eq_true rfl) ?_
  intro p e s m args below meth c A Qt ls hx hb hml hts hown hN hK hP hD hA hl hret
  have hS : va_S A s.heap s.heap [] := va_S.rf
  have hl : lv_has ls 4 [(0, .ref (a 0)), (1, .int x1)] := hl
  unfold wp_E_firstOfBatch at hw
  refine lv_aload_n hx hb d_E_firstOfBatch_0 rfl (lv_at hl 0 rfl) ?_
  refine va_get (D := D) (ci := 4) (C := R_E) (T := F_E) (N := 11) hx hb hts in_E hown hK hP 0 rfl rfl 2 (by decide) (hts _ tb_130) (fun _ h9 => h9) rfl d_E_firstOfBatch_1 ?_
  refine lv_iload_n hx hb d_E_firstOfBatch_4 rfl (lv_at hl 1 rfl) ?_
  refine lv_aload_n hx hb d_E_firstOfBatch_5 rfl (lv_at hl 0 rfl) ?_
  refine va_get (D := D) (ci := 4) (C := R_E) (T := F_E) (N := 11) hx hb hts in_E hown hK hP 0 rfl rfl 8 (by decide) (hts _ tb_136) (fun _ h9 => h9) rfl d_E_firstOfBatch_6 ?_
  refine aft_i (va_runVN (As := [.int x1, .int (g.2.1 8)]) (rest := []) ⟨hx, hb, hml, hown, hts⟩ (c_R_leastExpired l D a cI cZ _ g x1 (g.2.1 8) _ hw) ⟨(va_cnB 2 hts good_R_leastExpired rfl rfl rfl (hN _ tn_289) (hts _ tb_3) hd_R_leastExpired ⟨Nat.le_of_ble_eq_true rfl, Nat.le_of_ble_eq_true rfl⟩), hts _ tb_291, hts _ ts_22⟩ (preV 9 3 hP hD hK hN rfl rfl) rfl rfl hl.1 rfl (lv_room (Nat.le_of_ble_eq_true rfl)) d_E_firstOfBatch_9 ⟨Nat.zero_le _, Nat.zero_le _⟩) hD hS hA hK (fun r9 u9 H locs hw hP hD hS => ?_)
  refine lv_istore_n (lv' := [(2, .int r9), (0, .ref (a 0)), (1, .int x1)]) hx hb d_E_firstOfBatch_12 rfl hl (by decide) rfl (fun ls hl => ?_)
  refine lv_iload_n hx hb d_E_firstOfBatch_13 rfl (lv_at hl 0 rfl) ?_
  refine lv_iconst (v := (-1)) hx hb d_E_firstOfBatch_14 (by decide) ?_
  refine lv_icmp_eq (tgt := 20) hx hb d_E_firstOfBatch_15 (by decide) (fun hc => ?_) (fun hc => ?_)
  · replace hw := hw.1 hc
    refine lv_aload_n hx hb d_E_firstOfBatch_20 rfl (lv_at hl 1 rfl) ?_
    refine va_get (D := D) (ci := 4) (C := R_E) (T := F_E) (N := 11) hx hb hts in_E hown hK hP 0 rfl rfl 2 (by decide) (hts _ tb_130) (fun _ h9 => h9) rfl d_E_firstOfBatch_21 ?_
    refine lv_iload_n hx hb d_E_firstOfBatch_24 rfl (lv_at hl 2 rfl) ?_
    refine lv_aload_n hx hb d_E_firstOfBatch_25 rfl (lv_at hl 1 rfl) ?_
    refine va_get (D := D) (ci := 4) (C := R_E) (T := F_E) (N := 11) hx hb hts in_E hown hK hP 0 rfl rfl 9 (by decide) (hts _ tb_137) (fun _ h9 => h9) rfl d_E_firstOfBatch_26 ?_
    refine aft_i (va_runVN (As := [.int x1, .int (u9.2.1 9)]) (rest := []) ⟨hx, hb, hml, hown, hts⟩ (c_R_leastStart l D a cI cZ _ u9 x1 (u9.2.1 9) _ hw) ⟨(va_cnB 2 hts good_R_leastStart rfl rfl rfl (hN _ tn_268) (hts _ tb_3) hd_R_leastStart ⟨Nat.le_of_ble_eq_true rfl, Nat.le_of_ble_eq_true rfl⟩), hts _ tb_270, hts _ ts_17⟩ (preV 9 3 hP hD hK hN rfl rfl) rfl rfl hl.1 rfl (lv_room (Nat.le_of_ble_eq_true rfl)) d_E_firstOfBatch_29 ⟨Nat.zero_le _, Nat.zero_le _⟩) hD hS hA hK (fun r29 u29 H locs hw hP hD hS => ?_)
    refine lv_istore_n (lv' := [(3, .int r29), (2, .int r9), (0, .ref (a 0)), (1, .int x1)]) hx hb d_E_firstOfBatch_32 rfl hl (by decide) rfl (fun ls hl => ?_)
    refine lv_iload_n hx hb d_E_firstOfBatch_33 rfl (lv_at hl 0 rfl) ?_
    refine lv_iconst (v := (-1)) hx hb d_E_firstOfBatch_34 (by decide) ?_
    refine lv_icmp_eq (tgt := 42) hx hb d_E_firstOfBatch_35 (by decide) (fun hc => ?_) (fun hc => ?_)
    · replace hw := hw.1 hc
      refine lv_aload_n hx hb d_E_firstOfBatch_42 rfl (lv_at hl 2 rfl) ?_
      refine va_get (D := D) (ci := 4) (C := R_E) (T := F_E) (N := 11) hx hb hts in_E hown hK hP 0 rfl rfl 2 (by decide) (hts _ tb_130) (fun _ h9 => h9) rfl d_E_firstOfBatch_43 ?_
      refine lv_iload_n hx hb d_E_firstOfBatch_46 rfl (lv_at hl 3 rfl) ?_
      refine lv_iconst (v := 0) hx hb d_E_firstOfBatch_47 (by decide) ?_
      refine aft_i (va_runVN (As := [.int x1, .int 0]) (rest := []) ⟨hx, hb, hml, hown, hts⟩ (c_R_leastStart l D a cI cZ _ u29 x1 0 _ hw) ⟨(va_cnB 2 hts good_R_leastStart rfl rfl rfl (hN _ tn_268) (hts _ tb_3) hd_R_leastStart ⟨Nat.le_of_ble_eq_true rfl, Nat.le_of_ble_eq_true rfl⟩), hts _ tb_270, hts _ ts_17⟩ (preV 9 3 hP hD hK hN rfl rfl) rfl rfl hl.1 rfl (lv_room (Nat.le_of_ble_eq_true rfl)) d_E_firstOfBatch_48 ⟨Nat.zero_le _, Nat.zero_le _⟩) hD hS hA hK (fun r48 u48 H locs hw hP hD hS => ?_)
      exact hret _ _ _ _ _ _ hw hP hD hS d_E_firstOfBatch_51
    · replace hw := hw.2 hc
      refine lv_iload_n hx hb d_E_firstOfBatch_38 rfl (lv_at hl 0 rfl) ?_
      refine lv_goto (tgt := 51) hx hb d_E_firstOfBatch_39 (by decide) ?_
      exact hret _ _ _ _ _ _ hw hP hD hS d_E_firstOfBatch_51
  · replace hw := hw.2 hc
    refine lv_iload_n hx hb d_E_firstOfBatch_18 rfl (lv_at hl 0 rfl) ?_
    exact hret _ _ _ _ _ _ hw hP hD hS d_E_firstOfBatch_19
