set_option maxHeartbeats 4000000 in
set_option maxRecDepth 100000 in
theorem c_E_about (l : Launch) (D : va_G) (a : Nat → Nat) (cI cZ : ClassId) (sz : Nat) (g : St) (x1 : Int32) (x2 : Int32) (Q : Int32 → St → Prop) (hw : wp_E_about g x1 x2 Q) : MT_i l y_E_about b_E_about 4 rm_E_about (wE a cI cZ) D (ty_ cI cZ) sz g [.ref (a 0), .int x1, .int x2] Q := by
  refine MTi_of (by decide +kernel) (Nat.le_of_ble_eq_true rfl) ?_
  intro p e s m args below meth c A Qt ls hx hb hml hts hown hN hK hP hD hA hl hret
  have hS : va_S A s.heap s.heap [] := va_S.rf
  have hl : lv_has ls 4 [(0, .ref (a 0)), (1, .int x1), (2, .int x2)] := hl
  unfold wp_E_about at hw
  refine lv_aload_n hx hb d_E_about_0 rfl (lv_at hl 0 rfl) ?_
  refine va_get (D := D) (ci := 4) (C := R_E) (T := F_E) (N := 11) hx hb hts in_E hown hK hP 0 rfl rfl 1 (by decide) (hts _ tb_129) (fun _ h9 => h9) rfl d_E_about_1 ?_
  refine lv_iload_n hx hb d_E_about_4 rfl (lv_at hl 1 rfl) ?_
  refine aft_i (va_runVN (As := [.int x1]) (rest := []) ⟨hx, hb, hml, hown, hts⟩ (c_P_isWaiting l D a cI cZ _ g x1 _ hw) ⟨(va_cnB 1 hts good_P_isWaiting rfl rfl rfl (hN _ tn_338) (hts _ tb_2) hd_P_isWaiting ⟨Nat.le_of_ble_eq_true rfl, Nat.le_of_ble_eq_true rfl⟩), hts _ tb_340, hts _ ts_27⟩ (preV 2 2 hP hD hK hN rfl rfl) rfl rfl hl.1 rfl (lv_room (Nat.le_of_ble_eq_true rfl)) d_E_about_5 ⟨Nat.zero_le _, Nat.zero_le _⟩) hD hS hA hK (fun r5 u5 H locs hw hP hD hS => ?_)
  refine lv_if_ne (tgt := 13) hx hb d_E_about_8 (by decide) (fun hc => ?_) (fun hc => ?_)
  · replace hw := hw.1 hc
    refine lv_aload_n hx hb d_E_about_13 rfl (lv_at hl 0 rfl) ?_
    refine va_get (D := D) (ci := 4) (C := R_E) (T := F_E) (N := 11) hx hb hts in_E hown hK hP 0 rfl rfl 1 (by decide) (hts _ tb_129) (fun _ h9 => h9) rfl d_E_about_14 ?_
    refine va_getN (D := D) (ci := 2) (C := R_P) (T := F_P) (N := 7) hx hb hts in_P hown hK hP 2 rfl rfl 3 (by decide) (va_Nw.use rfl (hN _ tn_29)) (fun _ h9 => h9) rfl d_E_about_17 ?_
    refine lv_iload_n hx hb d_E_about_20 rfl (lv_at hl 1 rfl) ?_
    refine va_iald hx hb hK hP 6 0 rfl rfl hw.1 d_E_about_21 ?_
    replace hw := hw.2
    refine lv_istore_n (lv' := [(3, .int (u5.1 4 x1.toNatClampNeg)), (0, .ref (a 0)), (1, .int x1), (2, .int x2)]) hx hb d_E_about_22 rfl hl (by decide) rfl (fun ls hl => ?_)
    refine lv_iload_n hx hb d_E_about_23 rfl (lv_at hl 3 rfl) ?_
    rcases sw_5 x2 with hc | hc | hc | hc | hc | hc
    · replace hw := hw.1 hc
      refine lv_tableOut (tgt := 110) hx hb d_E_about_24 hc (by decide) ?_
      refine lv_iconst (v := (-1)) hx hb d_E_about_110 (by decide) ?_
      exact hret _ _ _ _ _ _ hw hP hD hS d_E_about_111
    · replace hw := hw.2.1 hc
      refine lv_tableIn (off := 36) (tgt := 60) hx hb d_E_about_24 (by rw [hc]; decide) (by rw [hc]; decide) (by rw [hc]; rfl) (by decide) ?_
      refine lv_aload_n hx hb d_E_about_60 rfl (lv_at hl 1 rfl) ?_
      refine va_get (D := D) (ci := 4) (C := R_E) (T := F_E) (N := 11) hx hb hts in_E hown hK hP 0 rfl rfl 2 (by decide) (hts _ tb_130) (fun _ h9 => h9) rfl d_E_about_61 ?_
      refine va_getN (D := D) (ci := 3) (C := R_R) (T := F_R) (N := 9) hx hb hts in_R hown hK hP 9 rfl rfl 1 (by decide) (va_Nw.use rfl (hN _ tn_62)) (fun _ h9 => h9) rfl d_E_about_64 ?_
      refine lv_iload_n hx hb d_E_about_67 rfl (lv_at hl 0 rfl) ?_
      refine va_iald hx hb hK hP 11 0 rfl rfl hw.1 d_E_about_68 ?_
      replace hw := hw.2
      exact hret _ _ _ _ _ _ hw hP hD hS d_E_about_69
    · replace hw := hw.2.2.1 hc
      refine lv_tableIn (off := 46) (tgt := 70) hx hb d_E_about_24 (by rw [hc]; decide) (by rw [hc]; decide) (by rw [hc]; rfl) (by decide) ?_
      refine lv_aload_n hx hb d_E_about_70 rfl (lv_at hl 1 rfl) ?_
      refine va_get (D := D) (ci := 4) (C := R_E) (T := F_E) (N := 11) hx hb hts in_E hown hK hP 0 rfl rfl 2 (by decide) (hts _ tb_130) (fun _ h9 => h9) rfl d_E_about_71 ?_
      refine va_getN (D := D) (ci := 3) (C := R_R) (T := F_R) (N := 9) hx hb hts in_R hown hK hP 9 rfl rfl 2 (by decide) (va_Nw.use rfl (hN _ tn_64)) (fun _ h9 => h9) rfl d_E_about_74 ?_
      refine lv_iload_n hx hb d_E_about_77 rfl (lv_at hl 0 rfl) ?_
      refine va_iald hx hb hK hP 12 0 rfl rfl hw.1 d_E_about_78 ?_
      replace hw := hw.2
      exact hret _ _ _ _ _ _ hw hP hD hS d_E_about_79
    · replace hw := hw.2.2.2.1 hc
      refine lv_tableIn (off := 56) (tgt := 80) hx hb d_E_about_24 (by rw [hc]; decide) (by rw [hc]; decide) (by rw [hc]; rfl) (by decide) ?_
      refine lv_aload_n hx hb d_E_about_80 rfl (lv_at hl 1 rfl) ?_
      refine va_get (D := D) (ci := 4) (C := R_E) (T := F_E) (N := 11) hx hb hts in_E hown hK hP 0 rfl rfl 2 (by decide) (hts _ tb_130) (fun _ h9 => h9) rfl d_E_about_81 ?_
      refine va_getN (D := D) (ci := 3) (C := R_R) (T := F_R) (N := 9) hx hb hts in_R hown hK hP 9 rfl rfl 4 (by decide) (va_Nw.use rfl (hN _ tn_68)) (fun _ h9 => h9) rfl d_E_about_84 ?_
      refine lv_iload_n hx hb d_E_about_87 rfl (lv_at hl 0 rfl) ?_
      refine va_iald hx hb hK hP 14 0 rfl rfl hw.1 d_E_about_88 ?_
      replace hw := hw.2
      exact hret _ _ _ _ _ _ hw hP hD hS d_E_about_89
    · replace hw := hw.2.2.2.2.1 hc
      refine lv_tableIn (off := 66) (tgt := 90) hx hb d_E_about_24 (by rw [hc]; decide) (by rw [hc]; decide) (by rw [hc]; rfl) (by decide) ?_
      refine lv_aload_n hx hb d_E_about_90 rfl (lv_at hl 1 rfl) ?_
      refine va_get (D := D) (ci := 4) (C := R_E) (T := F_E) (N := 11) hx hb hts in_E hown hK hP 0 rfl rfl 2 (by decide) (hts _ tb_130) (fun _ h9 => h9) rfl d_E_about_91 ?_
      refine va_getN (D := D) (ci := 3) (C := R_R) (T := F_R) (N := 9) hx hb hts in_R hown hK hP 9 rfl rfl 5 (by decide) (va_Nw.use rfl (hN _ tn_70)) (fun _ h9 => h9) rfl d_E_about_94 ?_
      refine lv_iload_n hx hb d_E_about_97 rfl (lv_at hl 0 rfl) ?_
      refine va_iald hx hb hK hP 15 0 rfl rfl hw.1 d_E_about_98 ?_
      replace hw := hw.2
      exact hret _ _ _ _ _ _ hw hP hD hS d_E_about_99
    · replace hw := hw.2.2.2.2.2 hc
      refine lv_tableIn (off := 76) (tgt := 100) hx hb d_E_about_24 (by rw [hc]; decide) (by rw [hc]; decide) (by rw [hc]; rfl) (by decide) ?_
      refine lv_aload_n hx hb d_E_about_100 rfl (lv_at hl 1 rfl) ?_
      refine va_get (D := D) (ci := 4) (C := R_E) (T := F_E) (N := 11) hx hb hts in_E hown hK hP 0 rfl rfl 2 (by decide) (hts _ tb_130) (fun _ h9 => h9) rfl d_E_about_101 ?_
      refine va_getN (D := D) (ci := 3) (C := R_R) (T := F_R) (N := 9) hx hb hts in_R hown hK hP 9 rfl rfl 0 (by decide) (va_Nw.use rfl (hN _ tn_60)) (fun _ h9 => h9) rfl d_E_about_104 ?_
      refine lv_iload_n hx hb d_E_about_107 rfl (lv_at hl 0 rfl) ?_
      refine va_iald hx hb hK hP 10 0 rfl rfl hw.1 d_E_about_108 ?_
      replace hw := hw.2
      exact hret _ _ _ _ _ _ hw hP hD hS d_E_about_109
  · replace hw := hw.2 hc
    refine lv_iconst (v := (-1)) hx hb d_E_about_11 (by decide) ?_
    exact hret _ _ _ _ _ _ hw hP hD hS d_E_about_12
set_option maxHeartbeats 4000000 in
set_option maxRecDepth 100000 in
theorem c_E_latest (l : Launch) (D : va_G) (a : Nat → Nat) (cI cZ : ClassId) (sz : Nat) (g : St) (Q : Int32 → St → Prop) (hw : wp_E_latest g Q) : MT_i l y_E_latest b_E_latest 1 rm_E_latest (wE a cI cZ) D (ty_ cI cZ) sz g [.ref (a 0)] Q := by
  refine MTi_of (by decide +kernel) (Nat.le_of_ble_eq_true rfl) ?_
  intro p e s m args below meth c A Qt ls hx hb hml hts hown hN hK hP hD hA hl hret
  have hS : va_S A s.heap s.heap [] := va_S.rf
  have hl : lv_has ls 1 [(0, .ref (a 0))] := hl
  unfold wp_E_latest at hw
  refine lv_aload_n hx hb d_E_latest_0 rfl (lv_at hl 0 rfl) ?_
  refine va_get (D := D) (ci := 4) (C := R_E) (T := F_E) (N := 11) hx hb hts in_E hown hK hP 0 rfl rfl 10 (by decide) (hts _ tb_138) (fun _ h9 => h9) rfl d_E_latest_1 ?_
  exact hret _ _ _ _ _ _ hw hP hD hS d_E_latest_4
set_option maxHeartbeats 4000000 in
set_option maxRecDepth 100000 in
theorem c_E_head (l : Launch) (D : va_G) (a : Nat → Nat) (cI cZ : ClassId) (sz : Nat) (g : St) (Q : Int32 → St → Prop) (hw : wp_E_head g Q) : MT_i l y_E_head b_E_head 1 rm_E_head (wE a cI cZ) D (ty_ cI cZ) sz g [.ref (a 0)] Q := by
  refine MTi_of (by decide +kernel) (Nat.le_of_ble_eq_true rfl) ?_
  intro p e s m args below meth c A Qt ls hx hb hml hts hown hN hK hP hD hA hl hret
  have hS : va_S A s.heap s.heap [] := va_S.rf
  have hl : lv_has ls 1 [(0, .ref (a 0))] := hl
  unfold wp_E_head at hw
  refine lv_aload_n hx hb d_E_head_0 rfl (lv_at hl 0 rfl) ?_
  refine va_get (D := D) (ci := 4) (C := R_E) (T := F_E) (N := 11) hx hb hts in_E hown hK hP 0 rfl rfl 9 (by decide) (hts _ tb_137) (fun _ h9 => h9) rfl d_E_head_1 ?_
  exact hret _ _ _ _ _ _ hw hP hD hS d_E_head_4
set_option maxHeartbeats 4000000 in
set_option maxRecDepth 100000 in
theorem c_E_now (l : Launch) (D : va_G) (a : Nat → Nat) (cI cZ : ClassId) (sz : Nat) (g : St) (Q : Int32 → St → Prop) (hw : wp_E_now g Q) : MT_i l y_E_now b_E_now 1 rm_E_now (wE a cI cZ) D (ty_ cI cZ) sz g [.ref (a 0)] Q := by
  refine MTi_of (by decide +kernel) (Nat.le_of_ble_eq_true rfl) ?_
  intro p e s m args below meth c A Qt ls hx hb hml hts hown hN hK hP hD hA hl hret
  have hS : va_S A s.heap s.heap [] := va_S.rf
  have hl : lv_has ls 1 [(0, .ref (a 0))] := hl
  unfold wp_E_now at hw
  refine lv_aload_n hx hb d_E_now_0 rfl (lv_at hl 0 rfl) ?_
  refine va_get (D := D) (ci := 4) (C := R_E) (T := F_E) (N := 11) hx hb hts in_E hown hK hP 0 rfl rfl 8 (by decide) (hts _ tb_136) (fun _ h9 => h9) rfl d_E_now_1 ?_
  exact hret _ _ _ _ _ _ hw hP hD hS d_E_now_4
set_option maxHeartbeats 4000000 in
set_option maxRecDepth 100000 in
theorem c_E_batch (l : Launch) (D : va_G) (a : Nat → Nat) (cI cZ : ClassId) (sz : Nat) (g : St) (Q : Int32 → St → Prop) (hw : wp_E_batch g Q) : MT_i l y_E_batch b_E_batch 1 rm_E_batch (wE a cI cZ) D (ty_ cI cZ) sz g [.ref (a 0)] Q := by
  refine MTi_of (by decide +kernel) (Nat.le_of_ble_eq_true rfl) ?_
  intro p e s m args below meth c A Qt ls hx hb hml hts hown hN hK hP hD hA hl hret
  have hS : va_S A s.heap s.heap [] := va_S.rf
  have hl : lv_has ls 1 [(0, .ref (a 0))] := hl
  unfold wp_E_batch at hw
  refine lv_bipush (v := 10) hx hb d_E_batch_0 (by decide) ?_
  refine lv_aload_n hx hb d_E_batch_2 rfl (lv_at hl 0 rfl) ?_
  refine va_get (D := D) (ci := 4) (C := R_E) (T := F_E) (N := 11) hx hb hts in_E hown hK hP 0 rfl rfl 4 (by decide) (hts _ tb_132) (fun _ h9 => h9) rfl d_E_batch_3 ?_
  refine va_getN (D := D) (ci := 0) (C := R_B) (T := F_B) (N := 3) hx hb hts in_B hown hK hP 19 rfl rfl 2 (by decide) (va_Nw.use rfl (hN _ tn_120)) (fun _ h9 => h9) rfl d_E_batch_6 ?_
  refine lv_imul hx hb d_E_batch_9 ?_
  refine lv_iconst (v := 5) hx hb d_E_batch_10 (by decide) ?_
  refine lv_aload_n hx hb d_E_batch_11 rfl (lv_at hl 0 rfl) ?_
  refine va_get (D := D) (ci := 4) (C := R_E) (T := F_E) (N := 11) hx hb hts in_E hown hK hP 0 rfl rfl 4 (by decide) (hts _ tb_132) (fun _ h9 => h9) rfl d_E_batch_12 ?_
  refine va_getN (D := D) (ci := 0) (C := R_B) (T := F_B) (N := 3) hx hb hts in_B hown hK hP 19 rfl rfl 0 (by decide) (va_Nw.use rfl (hN _ tn_116)) (fun _ h9 => h9) rfl d_E_batch_15 ?_
  refine lv_imul hx hb d_E_batch_18 ?_
  refine lv_iadd hx hb d_E_batch_19 ?_
  refine lv_aload_n hx hb d_E_batch_20 rfl (lv_at hl 0 rfl) ?_
  refine va_get (D := D) (ci := 4) (C := R_E) (T := F_E) (N := 11) hx hb hts in_E hown hK hP 0 rfl rfl 4 (by decide) (hts _ tb_132) (fun _ h9 => h9) rfl d_E_batch_21 ?_
  refine va_getN (D := D) (ci := 0) (C := R_B) (T := F_B) (N := 3) hx hb hts in_B hown hK hP 19 rfl rfl 1 (by decide) (va_Nw.use rfl (hN _ tn_118)) (fun _ h9 => h9) rfl d_E_batch_24 ?_
  refine lv_iadd hx hb d_E_batch_27 ?_
  exact hret _ _ _ _ _ _ hw hP hD hS d_E_batch_28
