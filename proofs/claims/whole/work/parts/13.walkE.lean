set_option maxHeartbeats 4000000 in
set_option maxRecDepth 100000 in
theorem c_R_end (l : Launch) (D : va_G) (a : Nat → Nat) (cI cZ : ClassId) (sz : Nat) (g : St) (x1 : Int32) (Q : Int32 → St → Prop) (hw : wp_R_end g x1 Q) : MT_i l y_R_end b_R_end 2 rm_R_end (wE a cI cZ) D (ty_ cI cZ) sz g [.ref (a 9), .int x1] Q := by
  refine MTi_of (by decide +kernel) (Nat.le_of_ble_eq_true rfl) ?_
  intro p e s m args below meth c A Qt ls hx hb hml hts hown hN hK hP hD hA hl hret
  have hS : va_S A s.heap s.heap [] := va_S.rf
  have hl : lv_has ls 2 [(0, .ref (a 9)), (1, .int x1)] := hl
  unfold wp_R_end at hw
  refine lv_aload_n hx hb d_R_end_0 rfl (lv_at hl 0 rfl) ?_
  refine va_get (D := D) (ci := 3) (C := R_R) (T := F_R) (N := 9) hx hb hts in_R hown hK hP 9 rfl rfl 1 (by decide) (hts _ tb_61) (fun _ h9 => h9) rfl d_R_end_1 ?_
  refine lv_iload_n hx hb d_R_end_4 rfl (lv_at hl 1 rfl) ?_
  refine va_iald hx hb hK hP 11 0 rfl rfl hw.1 d_R_end_5 ?_
  replace hw := hw.2
  refine lv_aload_n hx hb d_R_end_6 rfl (lv_at hl 0 rfl) ?_
  refine va_get (D := D) (ci := 3) (C := R_R) (T := F_R) (N := 9) hx hb hts in_R hown hK hP 9 rfl rfl 2 (by decide) (hts _ tb_63) (fun _ h9 => h9) rfl d_R_end_7 ?_
  refine lv_iload_n hx hb d_R_end_10 rfl (lv_at hl 1 rfl) ?_
  refine va_iald hx hb hK hP 12 0 rfl rfl hw.1 d_R_end_11 ?_
  replace hw := hw.2
  refine lv_iadd hx hb d_R_end_12 ?_
  exact hret _ _ _ _ _ _ hw hP hD hS d_R_end_13
set_option maxHeartbeats 4000000 in
set_option maxRecDepth 100000 in
theorem c_R_isReady (l : Launch) (D : va_G) (a : Nat → Nat) (cI cZ : ClassId) (sz : Nat) (g : St) (x1 : Int32) (x2 : Int32) (Q : Int32 → St → Prop) (hw : wp_R_isReady g x1 x2 Q) : MT_z l y_R_isReady b_R_isReady 3 rm_R_isReady (wE a cI cZ) D (ty_ cI cZ) sz g [.ref (a 9), .int x1, .int x2] Q := by
  refine MTz_of (by decide +kernel) (Nat.le_of_ble_eq_true rfl) ?_
  intro p e s m args below meth c A Qt ls hx hb hml hts hown hN hK hP hD hA hl hret
  have hS : va_S A s.heap s.heap [] := va_S.rf
  have hl : lv_has ls 3 [(0, .ref (a 9)), (1, .int x1), (2, .int x2)] := hl
  unfold wp_R_isReady at hw
  refine lv_aload_n hx hb d_R_isReady_0 rfl (lv_at hl 0 rfl) ?_
  refine va_get (D := D) (ci := 3) (C := R_R) (T := F_R) (N := 9) hx hb hts in_R hown hK hP 9 rfl rfl 6 (by decide) (hts _ tb_71) (fun _ h9 => h9) rfl d_R_isReady_1 ?_
  refine lv_iload_n hx hb d_R_isReady_4 rfl (lv_at hl 1 rfl) ?_
  refine va_zald hx hb hK hP 16 1 rfl rfl hw.1 d_R_isReady_5 ?_
  replace hw := hw.2
  refine lv_if_eq (tgt := 23) hx hb d_R_isReady_6 (by decide) (fun hc => ?_) (fun hc => ?_)
  · replace hw := hw.1 hc
    refine lv_iconst (v := 0) hx hb d_R_isReady_23 (by decide) ?_
    exact hret _ _ _ _ _ _ rfl hw hP hD hS d_R_isReady_24
  · replace hw := hw.2 hc
    refine lv_aload_n hx hb d_R_isReady_9 rfl (lv_at hl 0 rfl) ?_
    refine va_get (D := D) (ci := 3) (C := R_R) (T := F_R) (N := 9) hx hb hts in_R hown hK hP 9 rfl rfl 0 (by decide) (hts _ tb_59) (fun _ h9 => h9) rfl d_R_isReady_10 ?_
    refine lv_iload_n hx hb d_R_isReady_13 rfl (lv_at hl 1 rfl) ?_
    refine va_iald hx hb hK hP 10 0 rfl rfl hw.1 d_R_isReady_14 ?_
    replace hw := hw.2
    refine lv_iload_n hx hb d_R_isReady_15 rfl (lv_at hl 2 rfl) ?_
    refine lv_icmp_ne (tgt := 23) hx hb d_R_isReady_16 (by decide) (fun hc => ?_) (fun hc => ?_)
    · replace hw := hw.1 hc
      refine lv_iconst (v := 0) hx hb d_R_isReady_23 (by decide) ?_
      exact hret _ _ _ _ _ _ rfl hw hP hD hS d_R_isReady_24
    · replace hw := hw.2 hc
      refine lv_iconst (v := 1) hx hb d_R_isReady_19 (by decide) ?_
      refine lv_goto (tgt := 24) hx hb d_R_isReady_20 (by decide) ?_
      exact hret _ _ _ _ _ _ rfl hw hP hD hS d_R_isReady_24
set_option maxHeartbeats 4000000 in
set_option maxRecDepth 100000 in
theorem c_R_open (l : Launch) (D : va_G) (a : Nat → Nat) (cI cZ : ClassId) (sz : Nat) (g : St) (x1 : Int32) (x2 : Int32) (x3 : Int32) (x4 : Int32) (x5 : Int32) (x6 : Int32) (Q : St → Prop) (hw : wp_R_open g x1 x2 x3 x4 x5 x6 Q) : MT_v l y_R_open b_R_open 7 rm_R_open (wE a cI cZ) D (ty_ cI cZ) sz g [.ref (a 9), .int x1, .int x2, .int x3, .int x4, .int x5, .int x6] Q := by
  refine MTv_of (by decide +kernel) (Nat.le_of_ble_eq_true rfl) ?_
  intro p e s m args below meth c A Qt ls hx hb hml hts hown hN hK hP hD hA hl hret
  have hS : va_S A s.heap s.heap [] := va_S.rf
  have hl : lv_has ls 7 [(0, .ref (a 9)), (1, .int x1), (2, .int x2), (3, .int x3), (4, .int x4), (5, .int x5), (6, .int x6)] := hl
  unfold wp_R_open at hw
  refine lv_aload_n hx hb d_R_open_0 rfl (lv_at hl 0 rfl) ?_
  refine va_get (D := D) (ci := 3) (C := R_R) (T := F_R) (N := 9) hx hb hts in_R hown hK hP 9 rfl rfl 0 (by decide) (hts _ tb_59) (fun _ h9 => h9) rfl d_R_open_1 ?_
  refine lv_iload_n hx hb d_R_open_4 rfl (lv_at hl 1 rfl) ?_
  refine lv_iload_n hx hb d_R_open_5 rfl (lv_at hl 2 rfl) ?_
  refine va_iast hx hb hK hP hD hS 10 0 rfl rfl hw.1 d_R_open_6 (fun H locs hP hD hS => ?_)
  replace hw := hw.2
  have hP : va_P D cls_ (wE a cI cZ (sA g 7 x1.toNatClampNeg x2)) H := pA_E_7 (g := g) (j := x1.toNatClampNeg) (x := x2) hP
  have hD : va_D A (wE a cI cZ (sA g 7 x1.toNatClampNeg x2)) := dA_E_7 (g := g) (j := x1.toNatClampNeg) (x := x2) hD
  generalize sA g 7 x1.toNatClampNeg x2 = g_6 at hw hP hD
  refine lv_aload_n hx hb d_R_open_7 rfl (lv_at hl 0 rfl) ?_
  refine va_get (D := D) (ci := 3) (C := R_R) (T := F_R) (N := 9) hx hb hts in_R hown hK hP 9 rfl rfl 1 (by decide) (hts _ tb_61) (fun _ h9 => h9) rfl d_R_open_8 ?_
  refine lv_iload_n hx hb d_R_open_11 rfl (lv_at hl 1 rfl) ?_
  refine lv_iload_n hx hb d_R_open_12 rfl (lv_at hl 3 rfl) ?_
  refine va_iast hx hb hK hP hD hS 11 0 rfl rfl hw.1 d_R_open_13 (fun H locs hP hD hS => ?_)
  replace hw := hw.2
  have hP : va_P D cls_ (wE a cI cZ (sA g_6 8 x1.toNatClampNeg x3)) H := pA_E_8 (g := g_6) (j := x1.toNatClampNeg) (x := x3) hP
  have hD : va_D A (wE a cI cZ (sA g_6 8 x1.toNatClampNeg x3)) := dA_E_8 (g := g_6) (j := x1.toNatClampNeg) (x := x3) hD
  generalize sA g_6 8 x1.toNatClampNeg x3 = g_13 at hw hP hD
  refine lv_aload_n hx hb d_R_open_14 rfl (lv_at hl 0 rfl) ?_
  refine va_get (D := D) (ci := 3) (C := R_R) (T := F_R) (N := 9) hx hb hts in_R hown hK hP 9 rfl rfl 2 (by decide) (hts _ tb_63) (fun _ h9 => h9) rfl d_R_open_15 ?_
  refine lv_iload_n hx hb d_R_open_18 rfl (lv_at hl 1 rfl) ?_
  refine lv_iload hx hb d_R_open_19 (lv_at hl 4 rfl) ?_
  refine va_iast hx hb hK hP hD hS 12 0 rfl rfl hw.1 d_R_open_21 (fun H locs hP hD hS => ?_)
  replace hw := hw.2
  have hP : va_P D cls_ (wE a cI cZ (sA g_13 9 x1.toNatClampNeg x4)) H := pA_E_9 (g := g_13) (j := x1.toNatClampNeg) (x := x4) hP
  have hD : va_D A (wE a cI cZ (sA g_13 9 x1.toNatClampNeg x4)) := dA_E_9 (g := g_13) (j := x1.toNatClampNeg) (x := x4) hD
  generalize sA g_13 9 x1.toNatClampNeg x4 = g_21 at hw hP hD
  refine lv_aload_n hx hb d_R_open_22 rfl (lv_at hl 0 rfl) ?_
  refine va_get (D := D) (ci := 3) (C := R_R) (T := F_R) (N := 9) hx hb hts in_R hown hK hP 9 rfl rfl 3 (by decide) (hts _ tb_65) (fun _ h9 => h9) rfl d_R_open_23 ?_
  refine lv_iload_n hx hb d_R_open_26 rfl (lv_at hl 1 rfl) ?_
  refine lv_iconst (v := 1) hx hb d_R_open_27 (by decide) ?_
  refine va_iast hx hb hK hP hD hS 13 0 rfl rfl hw.1 d_R_open_28 (fun H locs hP hD hS => ?_)
  replace hw := hw.2
  have hP : va_P D cls_ (wE a cI cZ (sA g_21 10 x1.toNatClampNeg 1)) H := pA_E_10 (g := g_21) (j := x1.toNatClampNeg) (x := 1) hP
  have hD : va_D A (wE a cI cZ (sA g_21 10 x1.toNatClampNeg 1)) := dA_E_10 (g := g_21) (j := x1.toNatClampNeg) (x := 1) hD
  generalize sA g_21 10 x1.toNatClampNeg 1 = g_28 at hw hP hD
  refine lv_aload_n hx hb d_R_open_29 rfl (lv_at hl 0 rfl) ?_
  refine va_get (D := D) (ci := 3) (C := R_R) (T := F_R) (N := 9) hx hb hts in_R hown hK hP 9 rfl rfl 4 (by decide) (hts _ tb_67) (fun _ h9 => h9) rfl d_R_open_30 ?_
  refine lv_iload_n hx hb d_R_open_33 rfl (lv_at hl 1 rfl) ?_
  refine lv_iload hx hb d_R_open_34 (lv_at hl 5 rfl) ?_
  refine va_iast hx hb hK hP hD hS 14 0 rfl rfl hw.1 d_R_open_36 (fun H locs hP hD hS => ?_)
  replace hw := hw.2
  have hP : va_P D cls_ (wE a cI cZ (sA g_28 11 x1.toNatClampNeg x5)) H := pA_E_11 (g := g_28) (j := x1.toNatClampNeg) (x := x5) hP
  have hD : va_D A (wE a cI cZ (sA g_28 11 x1.toNatClampNeg x5)) := dA_E_11 (g := g_28) (j := x1.toNatClampNeg) (x := x5) hD
  generalize sA g_28 11 x1.toNatClampNeg x5 = g_36 at hw hP hD
  refine lv_aload_n hx hb d_R_open_37 rfl (lv_at hl 0 rfl) ?_
  refine va_get (D := D) (ci := 3) (C := R_R) (T := F_R) (N := 9) hx hb hts in_R hown hK hP 9 rfl rfl 5 (by decide) (hts _ tb_69) (fun _ h9 => h9) rfl d_R_open_38 ?_
  refine lv_iload_n hx hb d_R_open_41 rfl (lv_at hl 1 rfl) ?_
  refine lv_iload hx hb d_R_open_42 (lv_at hl 6 rfl) ?_
  refine va_iast hx hb hK hP hD hS 15 0 rfl rfl hw.1 d_R_open_44 (fun H locs hP hD hS => ?_)
  replace hw := hw.2
  have hP : va_P D cls_ (wE a cI cZ (sA g_36 12 x1.toNatClampNeg x6)) H := pA_E_12 (g := g_36) (j := x1.toNatClampNeg) (x := x6) hP
  have hD : va_D A (wE a cI cZ (sA g_36 12 x1.toNatClampNeg x6)) := dA_E_12 (g := g_36) (j := x1.toNatClampNeg) (x := x6) hD
  generalize sA g_36 12 x1.toNatClampNeg x6 = g_44 at hw hP hD
  refine lv_aload_n hx hb d_R_open_45 rfl (lv_at hl 0 rfl) ?_
  refine va_get (D := D) (ci := 3) (C := R_R) (T := F_R) (N := 9) hx hb hts in_R hown hK hP 9 rfl rfl 7 (by decide) (hts _ tb_73) (fun _ h9 => h9) rfl d_R_open_46 ?_
  refine lv_aload_n hx hb d_R_open_49 rfl (lv_at hl 0 rfl) ?_
  refine va_get (D := D) (ci := 3) (C := R_R) (T := F_R) (N := 9) hx hb hts in_R hown hK hP 9 rfl rfl 8 (by decide) (hts _ tb_75) (fun _ h9 => h9) rfl d_R_open_50 ?_
  refine lv_iload_n hx hb d_R_open_53 rfl (lv_at hl 1 rfl) ?_
  refine va_iast hx hb hK hP hD hS 17 0 rfl rfl hw.1 d_R_open_54 (fun H locs hP hD hS => ?_)
  replace hw := hw.2
  have hP : va_P D cls_ (wE a cI cZ (sA g_44 14 (g_44.2.1 1).toNatClampNeg x1)) H := pA_E_14 (g := g_44) (j := (g_44.2.1 1).toNatClampNeg) (x := x1) hP
  have hD : va_D A (wE a cI cZ (sA g_44 14 (g_44.2.1 1).toNatClampNeg x1)) := dA_E_14 (g := g_44) (j := (g_44.2.1 1).toNatClampNeg) (x := x1) hD
  generalize sA g_44 14 (g_44.2.1 1).toNatClampNeg x1 = g_54 at hw hP hD
  refine lv_aload_n hx hb d_R_open_55 rfl (lv_at hl 0 rfl) ?_
  refine lv_dup hx hb d_R_open_56 rfl ?_
  refine va_get (D := D) (ci := 3) (C := R_R) (T := F_R) (N := 9) hx hb hts in_R hown hK hP 9 rfl rfl 8 (by decide) (hts _ tb_75) (fun _ h9 => h9) rfl d_R_open_57 ?_
  refine lv_iconst (v := 1) hx hb d_R_open_60 (by decide) ?_
  refine lv_iadd hx hb d_R_open_61 ?_
  refine va_put (v := .int ((g_54.2.1 1) + 1)) (ty := .int) (D := D) (ci := 3) (C := R_R) (T := F_R) (N := 9) hx hb hts in_R t_R t_R_ok n_R hown hK hP hD hS 9 rfl rfl 8 (by decide) (hts _ tb_75) (fun _ h9 => h9) rfl (by decide +kernel) rfl rfl (Nat.le_of_ble_eq_true rfl) d_R_open_62 (fun H locs hP hD hS => ?_)
  have hP : va_P D cls_ (wE a cI cZ (sI g_54 1 ((g_54.2.1 1) + 1))) H := pI_E_1 (g := g_54) (v := (g_54.2.1 1) + 1) hP
  have hD : va_D A (wE a cI cZ (sI g_54 1 ((g_54.2.1 1) + 1))) := dI_E_1 (g := g_54) (v := (g_54.2.1 1) + 1) hD
  generalize sI g_54 1 ((g_54.2.1 1) + 1) = g_62 at hw hP hD
  exact hret _ _ _ _ _ hw hP hD hS d_R_open_65
set_option maxHeartbeats 4000000 in
set_option maxRecDepth 100000 in
theorem c_R_extend (l : Launch) (D : va_G) (a : Nat → Nat) (cI cZ : ClassId) (sz : Nat) (g : St) (x1 : Int32) (x2 : Int32) (x3 : Int32) (Q : St → Prop) (hw : wp_R_extend g x1 x2 x3 Q) : MT_v l y_R_extend b_R_extend 4 rm_R_extend (wE a cI cZ) D (ty_ cI cZ) sz g [.ref (a 9), .int x1, .int x2, .int x3] Q := by
  refine MTv_of (by decide +kernel) (Nat.le_of_ble_eq_true rfl) ?_
  intro p e s m args below meth c A Qt ls hx hb hml hts hown hN hK hP hD hA hl hret
  have hS : va_S A s.heap s.heap [] := va_S.rf
  have hl : lv_has ls 4 [(0, .ref (a 9)), (1, .int x1), (2, .int x2), (3, .int x3)] := hl
  unfold wp_R_extend at hw
  refine lv_aload_n hx hb d_R_extend_0 rfl (lv_at hl 0 rfl) ?_
  refine va_get (D := D) (ci := 3) (C := R_R) (T := F_R) (N := 9) hx hb hts in_R hown hK hP 9 rfl rfl 1 (by decide) (hts _ tb_61) (fun _ h9 => h9) rfl d_R_extend_1 ?_
  refine lv_iload_n hx hb d_R_extend_4 rfl (lv_at hl 1 rfl) ?_
  refine lv_aload_n hx hb d_R_extend_5 rfl (lv_at hl 0 rfl) ?_
  refine va_get (D := D) (ci := 3) (C := R_R) (T := F_R) (N := 9) hx hb hts in_R hown hK hP 9 rfl rfl 1 (by decide) (hts _ tb_61) (fun _ h9 => h9) rfl d_R_extend_6 ?_
  refine lv_iload_n hx hb d_R_extend_9 rfl (lv_at hl 1 rfl) ?_
  refine va_iald hx hb hK hP 11 0 rfl rfl hw.1 d_R_extend_10 ?_
  replace hw := hw.2
  refine lv_iload_n hx hb d_R_extend_11 rfl (lv_at hl 2 rfl) ?_
  refine va_mmin hx hb (by rw [hml]; exact hl.1.symm) hown (hts _ tb_225) (hts _ tb_226) (hts _ tb_7) (hts _ tb_227) (Nat.le_of_ble_eq_true rfl) (Nat.le_of_ble_eq_true rfl) (Nat.zero_le _) (Nat.zero_le _) d_R_extend_12 ?_
  refine va_iast hx hb hK hP hD hS 11 0 rfl rfl hw.1 d_R_extend_15 (fun H locs hP hD hS => ?_)
  replace hw := hw.2
  have hP : va_P D cls_ (wE a cI cZ (sA g 8 x1.toNatClampNeg (if x2 < g.1 8 x1.toNatClampNeg then x2 else g.1 8 x1.toNatClampNeg))) H := pA_E_8 (g := g) (j := x1.toNatClampNeg) (x := (if x2 < g.1 8 x1.toNatClampNeg then x2 else g.1 8 x1.toNatClampNeg)) hP
  have hD : va_D A (wE a cI cZ (sA g 8 x1.toNatClampNeg (if x2 < g.1 8 x1.toNatClampNeg then x2 else g.1 8 x1.toNatClampNeg))) := dA_E_8 (g := g) (j := x1.toNatClampNeg) (x := (if x2 < g.1 8 x1.toNatClampNeg then x2 else g.1 8 x1.toNatClampNeg)) hD
  generalize sA g 8 x1.toNatClampNeg (if x2 < g.1 8 x1.toNatClampNeg then x2 else g.1 8 x1.toNatClampNeg) = g_15 at hw hP hD
  refine lv_aload_n hx hb d_R_extend_16 rfl (lv_at hl 0 rfl) ?_
  refine va_get (D := D) (ci := 3) (C := R_R) (T := F_R) (N := 9) hx hb hts in_R hown hK hP 9 rfl rfl 2 (by decide) (hts _ tb_63) (fun _ h9 => h9) rfl d_R_extend_17 ?_
  refine lv_iload_n hx hb d_R_extend_20 rfl (lv_at hl 1 rfl) ?_
  refine lv_dup2_11 hx hb d_R_extend_21 rfl rfl ?_
  refine va_iald hx hb hK hP 12 0 rfl rfl hw.1 d_R_extend_22 ?_
  replace hw := hw.2
  refine lv_iload_n hx hb d_R_extend_23 rfl (lv_at hl 3 rfl) ?_
  refine lv_iadd hx hb d_R_extend_24 ?_
  refine va_iast hx hb hK hP hD hS 12 0 rfl rfl hw.1 d_R_extend_25 (fun H locs hP hD hS => ?_)
  replace hw := hw.2
  have hP : va_P D cls_ (wE a cI cZ (sA g_15 9 x1.toNatClampNeg ((g_15.1 9 x1.toNatClampNeg) + x3))) H := pA_E_9 (g := g_15) (j := x1.toNatClampNeg) (x := ((g_15.1 9 x1.toNatClampNeg) + x3)) hP
  have hD : va_D A (wE a cI cZ (sA g_15 9 x1.toNatClampNeg ((g_15.1 9 x1.toNatClampNeg) + x3))) := dA_E_9 (g := g_15) (j := x1.toNatClampNeg) (x := ((g_15.1 9 x1.toNatClampNeg) + x3)) hD
  generalize sA g_15 9 x1.toNatClampNeg ((g_15.1 9 x1.toNatClampNeg) + x3) = g_25 at hw hP hD
  refine lv_aload_n hx hb d_R_extend_26 rfl (lv_at hl 0 rfl) ?_
  refine va_get (D := D) (ci := 3) (C := R_R) (T := F_R) (N := 9) hx hb hts in_R hown hK hP 9 rfl rfl 3 (by decide) (hts _ tb_65) (fun _ h9 => h9) rfl d_R_extend_27 ?_
  refine lv_iload_n hx hb d_R_extend_30 rfl (lv_at hl 1 rfl) ?_
  refine lv_dup2_11 hx hb d_R_extend_31 rfl rfl ?_
  refine va_iald hx hb hK hP 13 0 rfl rfl hw.1 d_R_extend_32 ?_
  replace hw := hw.2
  refine lv_iconst (v := 1) hx hb d_R_extend_33 (by decide) ?_
  refine lv_iadd hx hb d_R_extend_34 ?_
  refine va_iast hx hb hK hP hD hS 13 0 rfl rfl hw.1 d_R_extend_35 (fun H locs hP hD hS => ?_)
  replace hw := hw.2
  have hP : va_P D cls_ (wE a cI cZ (sA g_25 10 x1.toNatClampNeg ((g_25.1 10 x1.toNatClampNeg) + 1))) H := pA_E_10 (g := g_25) (j := x1.toNatClampNeg) (x := ((g_25.1 10 x1.toNatClampNeg) + 1)) hP
  have hD : va_D A (wE a cI cZ (sA g_25 10 x1.toNatClampNeg ((g_25.1 10 x1.toNatClampNeg) + 1))) := dA_E_10 (g := g_25) (j := x1.toNatClampNeg) (x := ((g_25.1 10 x1.toNatClampNeg) + 1)) hD
  generalize sA g_25 10 x1.toNatClampNeg ((g_25.1 10 x1.toNatClampNeg) + 1) = g_35 at hw hP hD
  exact hret _ _ _ _ _ hw hP hD hS d_R_extend_36
set_option maxHeartbeats 4000000 in
set_option maxRecDepth 100000 in
theorem c_R_remove (l : Launch) (D : va_G) (a : Nat → Nat) (cI cZ : ClassId) (sz : Nat) (g : St) (x1 : Int32) (Q : St → Prop) (hw : wp_R_remove g x1 Q) : MT_v l y_R_remove b_R_remove 4 rm_R_remove (wE a cI cZ) D (ty_ cI cZ) sz g [.ref (a 9), .int x1] Q := by
  refine MTv_of (by decide +kernel) (Nat.le_of_ble_eq_true rfl) ?_
  intro p e s m args below meth c A Qt ls hx hb hml hts hown hN hK hP hD hA hl hret
  have hS : va_S A s.heap s.heap [] := va_S.rf
  have hl : lv_has ls 4 [(0, .ref (a 9)), (1, .int x1)] := hl
  have k_4 : ∀ (n : Nat) (g : St) (x1 : Int32) (x2 : Int32) (x3 : Int32) (H : Heap) (locs : List Loc) (ls : Array Slot), va_P D cls_ (wE a cI cZ g) H → va_D A (wE a cI cZ g) → va_S A s.heap H locs → lv_has ls 4 [(0, .ref (a 9)), (1, .int x1), (2, .int x2), (3, .int x3)] → wl_R_remove_4 Q n g x1 x2 x3 → W p l e rm_R_remove s m args below meth c H locs 0 0 Qt (F0 m 4 ls []) := by
    intro n
    induction n with
    | zero => intro g x1 x2 x3 H locs ls hP hD hS hl hw; exact False.elim hw
    | succ n_4 ih_4 =>
      intro g x1 x2 x3 H locs ls hP hD hS hl hw
      unfold wl_R_remove_4 at hw
      refine lv_iload_n hx hb d_R_remove_4 rfl (lv_at hl 3 rfl) ?_
      refine lv_aload_n hx hb d_R_remove_5 rfl (lv_at hl 0 rfl) ?_
      refine va_get (D := D) (ci := 3) (C := R_R) (T := F_R) (N := 9) hx hb hts in_R hown hK hP 9 rfl rfl 8 (by decide) (hts _ tb_75) (fun _ h9 => h9) rfl d_R_remove_6 ?_
      refine lv_icmp_ge (tgt := 43) hx hb d_R_remove_9 (by decide) (fun hc => ?_) (fun hc => ?_)
      · replace hw := hw.1 hc
        refine lv_aload_n hx hb d_R_remove_43 rfl (lv_at hl 0 rfl) ?_
        refine lv_iload_n hx hb d_R_remove_44 rfl (lv_at hl 2 rfl) ?_
        refine va_put (v := .int x2) (ty := .int) (D := D) (ci := 3) (C := R_R) (T := F_R) (N := 9) hx hb hts in_R t_R t_R_ok n_R hown hK hP hD hS 9 rfl rfl 8 (by decide) (hts _ tb_75) (fun _ h9 => h9) rfl (by decide +kernel) rfl rfl (Nat.le_of_ble_eq_true rfl) d_R_remove_45 (fun H locs hP hD hS => ?_)
        have hP : va_P D cls_ (wE a cI cZ (sI g 1 x2)) H := pI_E_1 (g := g) (v := x2) hP
        have hD : va_D A (wE a cI cZ (sI g 1 x2)) := dI_E_1 (g := g) (v := x2) hD
        generalize sI g 1 x2 = g_45 at hw hP hD
        exact hret _ _ _ _ _ hw hP hD hS d_R_remove_48
      · replace hw := hw.2 hc
        refine lv_aload_n hx hb d_R_remove_12 rfl (lv_at hl 0 rfl) ?_
        refine va_get (D := D) (ci := 3) (C := R_R) (T := F_R) (N := 9) hx hb hts in_R hown hK hP 9 rfl rfl 7 (by decide) (hts _ tb_73) (fun _ h9 => h9) rfl d_R_remove_13 ?_
        refine lv_iload_n hx hb d_R_remove_16 rfl (lv_at hl 3 rfl) ?_
        refine va_iald hx hb hK hP 17 0 rfl rfl hw.1 d_R_remove_17 ?_
        replace hw := hw.2
        refine lv_iload_n hx hb d_R_remove_18 rfl (lv_at hl 1 rfl) ?_
        refine lv_icmp_eq (tgt := 37) hx hb d_R_remove_19 (by decide) (fun hc => ?_) (fun hc => ?_)
        · replace hw := hw.1 hc
          refine lv_iinc (k := 3) (v := x3 + 1) (lv' := [(3, .int (x3 + 1)), (0, .ref (a 9)), (1, .int x1), (2, .int x2)]) hx hb d_R_remove_37 hl rfl rfl (by decide) rfl (fun ls hl => ?_)
          refine lv_goto (tgt := 4) hx hb d_R_remove_40 (by decide) ?_
          exact ih_4 g x1 x2 (x3 + 1) _ _ _ hP hD hS (lv_sub hl [1, 2, 3, 0] rfl) hw
        · replace hw := hw.2 hc
          refine lv_aload_n hx hb d_R_remove_22 rfl (lv_at hl 0 rfl) ?_
          refine va_get (D := D) (ci := 3) (C := R_R) (T := F_R) (N := 9) hx hb hts in_R hown hK hP 9 rfl rfl 7 (by decide) (hts _ tb_73) (fun _ h9 => h9) rfl d_R_remove_23 ?_
          refine lv_iload_n hx hb d_R_remove_26 rfl (lv_at hl 2 rfl) ?_
          refine lv_aload_n hx hb d_R_remove_27 rfl (lv_at hl 0 rfl) ?_
          refine va_get (D := D) (ci := 3) (C := R_R) (T := F_R) (N := 9) hx hb hts in_R hown hK hP 9 rfl rfl 7 (by decide) (hts _ tb_73) (fun _ h9 => h9) rfl d_R_remove_28 ?_
          refine lv_iload_n hx hb d_R_remove_31 rfl (lv_at hl 3 rfl) ?_
          refine va_iald hx hb hK hP 17 0 rfl rfl hw.1 d_R_remove_32 ?_
          replace hw := hw.2
          refine va_iast hx hb hK hP hD hS 17 0 rfl rfl hw.1 d_R_remove_33 (fun H locs hP hD hS => ?_)
          replace hw := hw.2
          have hP : va_P D cls_ (wE a cI cZ (sA g 14 x2.toNatClampNeg (g.1 14 x3.toNatClampNeg))) H := pA_E_14 (g := g) (j := x2.toNatClampNeg) (x := (g.1 14 x3.toNatClampNeg)) hP
          have hD : va_D A (wE a cI cZ (sA g 14 x2.toNatClampNeg (g.1 14 x3.toNatClampNeg))) := dA_E_14 (g := g) (j := x2.toNatClampNeg) (x := (g.1 14 x3.toNatClampNeg)) hD
          generalize sA g 14 x2.toNatClampNeg (g.1 14 x3.toNatClampNeg) = g_33 at hw hP hD
          refine lv_iinc (k := 2) (v := x2 + 1) (lv' := [(2, .int (x2 + 1)), (0, .ref (a 9)), (1, .int x1), (3, .int x3)]) hx hb d_R_remove_34 hl rfl rfl (by decide) rfl (fun ls hl => ?_)
          refine lv_iinc (k := 3) (v := x3 + 1) (lv' := [(3, .int (x3 + 1)), (2, .int (x2 + 1)), (0, .ref (a 9)), (1, .int x1)]) hx hb d_R_remove_37 hl rfl rfl (by decide) rfl (fun ls hl => ?_)
          refine lv_goto (tgt := 4) hx hb d_R_remove_40 (by decide) ?_
          exact ih_4 g_33 x1 (x2 + 1) (x3 + 1) _ _ _ hP hD hS (lv_sub hl [2, 3, 1, 0] rfl) hw
  unfold wp_R_remove at hw
  refine lv_iconst (v := 0) hx hb d_R_remove_0 (by decide) ?_
  refine lv_istore_n (lv' := [(2, .int 0), (0, .ref (a 9)), (1, .int x1)]) hx hb d_R_remove_1 rfl hl (by decide) rfl (fun ls hl => ?_)
  refine lv_iconst (v := 0) hx hb d_R_remove_2 (by decide) ?_
  refine lv_istore_n (lv' := [(3, .int 0), (2, .int 0), (0, .ref (a 9)), (1, .int x1)]) hx hb d_R_remove_3 rfl hl (by decide) rfl (fun ls hl => ?_)
  obtain ⟨n, hw⟩ := hw
  exact k_4 n g x1 0 0 _ _ _ hP hD hS (lv_sub hl [2, 3, 1, 0] rfl) hw
set_option maxHeartbeats 4000000 in
set_option maxRecDepth 100000 in
theorem c_R_hasRoom (l : Launch) (D : va_G) (a : Nat → Nat) (cI cZ : ClassId) (sz : Nat) (g : St) (x1 : Int32) (x2 : Int32) (Q : Int32 → St → Prop) (hw : wp_R_hasRoom g x1 x2 Q) : MT_z l y_R_hasRoom b_R_hasRoom 3 rm_R_hasRoom (wE a cI cZ) D (ty_ cI cZ) sz g [.ref (a 9), .int x1, .int x2] Q := by
  refine MTz_of (by decide +kernel) (Nat.le_of_ble_eq_true rfl) ?_
  intro p e s m args below meth c A Qt ls hx hb hml hts hown hN hK hP hD hA hl hret
  have hS : va_S A s.heap s.heap [] := va_S.rf
  have hl : lv_has ls 3 [(0, .ref (a 9)), (1, .int x1), (2, .int x2)] := hl
  unfold wp_R_hasRoom at hw
  refine lv_aload_n hx hb d_R_hasRoom_0 rfl (lv_at hl 0 rfl) ?_
  refine va_get (D := D) (ci := 3) (C := R_R) (T := F_R) (N := 9) hx hb hts in_R hown hK hP 9 rfl rfl 3 (by decide) (hts _ tb_65) (fun _ h9 => h9) rfl d_R_hasRoom_1 ?_
  refine lv_iload_n hx hb d_R_hasRoom_4 rfl (lv_at hl 1 rfl) ?_
  refine va_iald hx hb hK hP 13 0 rfl rfl hw.1 d_R_hasRoom_5 ?_
  replace hw := hw.2
  refine lv_iconst (v := 4) hx hb d_R_hasRoom_6 (by decide) ?_
  refine lv_icmp_ge (tgt := 27) hx hb d_R_hasRoom_7 (by decide) (fun hc => ?_) (fun hc => ?_)
  · replace hw := hw.1 hc
    refine lv_iconst (v := 0) hx hb d_R_hasRoom_27 (by decide) ?_
    exact hret _ _ _ _ _ _ rfl hw hP hD hS d_R_hasRoom_28
  · replace hw := hw.2 hc
    refine lv_aload_n hx hb d_R_hasRoom_10 rfl (lv_at hl 0 rfl) ?_
    refine va_get (D := D) (ci := 3) (C := R_R) (T := F_R) (N := 9) hx hb hts in_R hown hK hP 9 rfl rfl 2 (by decide) (hts _ tb_63) (fun _ h9 => h9) rfl d_R_hasRoom_11 ?_
    refine lv_iload_n hx hb d_R_hasRoom_14 rfl (lv_at hl 1 rfl) ?_
    refine va_iald hx hb hK hP 12 0 rfl rfl hw.1 d_R_hasRoom_15 ?_
    replace hw := hw.2
    refine lv_iload_n hx hb d_R_hasRoom_16 rfl (lv_at hl 2 rfl) ?_
    refine lv_iadd hx hb d_R_hasRoom_17 ?_
    refine lv_bipush (v := 16) hx hb d_R_hasRoom_18 (by decide) ?_
    refine lv_icmp_gt (tgt := 27) hx hb d_R_hasRoom_20 (by decide) (fun hc => ?_) (fun hc => ?_)
    · replace hw := hw.1 hc
      refine lv_iconst (v := 0) hx hb d_R_hasRoom_27 (by decide) ?_
      exact hret _ _ _ _ _ _ rfl hw hP hD hS d_R_hasRoom_28
    · replace hw := hw.2 hc
      refine lv_iconst (v := 1) hx hb d_R_hasRoom_23 (by decide) ?_
      refine lv_goto (tgt := 28) hx hb d_R_hasRoom_24 (by decide) ?_
      exact hret _ _ _ _ _ _ rfl hw hP hD hS d_R_hasRoom_28
set_option maxHeartbeats 4000000 in
set_option maxRecDepth 100000 in
theorem c_R_neighbourOf (l : Launch) (D : va_G) (a : Nat → Nat) (cI cZ : ClassId) (sz : Nat) (g : St) (x1 : Int32) (x2 : Int32) (x3 : Int32) (x4 : Int32) (Q : Int32 → St → Prop) (hw : wp_R_neighbourOf g x1 x2 x3 x4 Q) : MT_i l y_R_neighbourOf b_R_neighbourOf 8 rm_R_neighbourOf (wE a cI cZ) D (ty_ cI cZ) sz g [.ref (a 9), .int x1, .int x2, .int x3, .int x4] Q := by
  refine MTi_of (by decide +kernel) (Nat.le_of_ble_eq_true rfl) ?_
  intro p e s m args below meth c A Qt ls hx hb hml hts hown hN hK hP hD hA hl hret
  have hS : va_S A s.heap s.heap [] := va_S.rf
  have hl : lv_has ls 8 [(0, .ref (a 9)), (1, .int x1), (2, .int x2), (3, .int x3), (4, .int x4)] := hl
  have k_6 : ∀ (n : Nat) (g : St) (x1 : Int32) (x2 : Int32) (x3 : Int32) (x4 : Int32) (x5 : Int32) (x6 : Int32) (H : Heap) (locs : List Loc) (ls : Array Slot), va_P D cls_ (wE a cI cZ g) H → va_D A (wE a cI cZ g) → va_S A s.heap H locs → lv_has ls 8 [(0, .ref (a 9)), (1, .int x1), (2, .int x2), (3, .int x3), (4, .int x4), (5, .int x5), (6, .int x6)] → wl_R_neighbourOf_6 Q n g x1 x2 x3 x4 x5 x6 → W p l e rm_R_neighbourOf s m args below meth c H locs 0 0 Qt (F0 m 6 ls []) := by
    intro n
    induction n with
    | zero => intro g x1 x2 x3 x4 x5 x6 H locs ls hP hD hS hl hw; exact False.elim hw
    | succ n_6 ih_6 =>
      intro g x1 x2 x3 x4 x5 x6 H locs ls hP hD hS hl hw
      unfold wl_R_neighbourOf_6 at hw
      refine lv_iload hx hb d_R_neighbourOf_6 (lv_at hl 6 rfl) ?_
      refine lv_aload_n hx hb d_R_neighbourOf_8 rfl (lv_at hl 0 rfl) ?_
      refine va_get (D := D) (ci := 3) (C := R_R) (T := F_R) (N := 9) hx hb hts in_R hown hK hP 9 rfl rfl 8 (by decide) (hts _ tb_75) (fun _ h9 => h9) rfl d_R_neighbourOf_9 ?_
      refine lv_icmp_ge (tgt := 99) hx hb d_R_neighbourOf_12 (by decide) (fun hc => ?_) (fun hc => ?_)
      · replace hw := hw.1 hc
        refine lv_iload hx hb d_R_neighbourOf_99 (lv_at hl 5 rfl) ?_
        exact hret _ _ _ _ _ _ hw hP hD hS d_R_neighbourOf_101
      · replace hw := hw.2 hc
        refine lv_aload_n hx hb d_R_neighbourOf_15 rfl (lv_at hl 0 rfl) ?_
        refine va_get (D := D) (ci := 3) (C := R_R) (T := F_R) (N := 9) hx hb hts in_R hown hK hP 9 rfl rfl 7 (by decide) (hts _ tb_73) (fun _ h9 => h9) rfl d_R_neighbourOf_16 ?_
        refine lv_iload hx hb d_R_neighbourOf_19 (lv_at hl 6 rfl) ?_
        refine va_iald hx hb hK hP 17 0 rfl rfl hw.1 d_R_neighbourOf_21 ?_
        replace hw := hw.2
        refine lv_istore (lv' := [(7, .int (g.1 14 x6.toNatClampNeg)), (0, .ref (a 9)), (1, .int x1), (2, .int x2), (3, .int x3), (4, .int x4), (5, .int x5), (6, .int x6)]) hx hb d_R_neighbourOf_22 hl (by decide) rfl (fun ls hl => ?_)
        refine lv_aload_n hx hb d_R_neighbourOf_24 rfl (lv_at hl 1 rfl) ?_
        refine va_get (D := D) (ci := 3) (C := R_R) (T := F_R) (N := 9) hx hb hts in_R hown hK hP 9 rfl rfl 0 (by decide) (hts _ tb_59) (fun _ h9 => h9) rfl d_R_neighbourOf_25 ?_
        refine lv_iload hx hb d_R_neighbourOf_28 (lv_at hl 0 rfl) ?_
        refine va_iald hx hb hK hP 10 0 rfl rfl hw.1 d_R_neighbourOf_30 ?_
        replace hw := hw.2
        refine lv_iload_n hx hb d_R_neighbourOf_31 rfl (lv_at hl 2 rfl) ?_
        refine lv_icmp_ne (tgt := 93) hx hb d_R_neighbourOf_32 (by decide) (fun hc => ?_) (fun hc => ?_)
        · replace hw := hw.1 hc
          refine lv_iinc (k := 7) (v := x6 + 1) (lv' := [(6, .int (x6 + 1)), (7, .int (g.1 14 x6.toNatClampNeg)), (0, .ref (a 9)), (1, .int x1), (2, .int x2), (3, .int x3), (4, .int x4), (5, .int x5)]) hx hb d_R_neighbourOf_93 hl rfl rfl (by decide) rfl (fun ls hl => ?_)
          refine lv_goto (tgt := 6) hx hb d_R_neighbourOf_96 (by decide) ?_
          exact ih_6 g x1 x2 x3 x4 x5 (x6 + 1) _ _ _ hP hD hS (lv_sub hl [2, 3, 4, 5, 6, 7, 0] rfl) hw
        · replace hw := hw.2 hc
          refine lv_aload_n hx hb d_R_neighbourOf_35 rfl (lv_at hl 1 rfl) ?_
          refine va_get (D := D) (ci := 3) (C := R_R) (T := F_R) (N := 9) hx hb hts in_R hown hK hP 9 rfl rfl 5 (by decide) (hts _ tb_69) (fun _ h9 => h9) rfl d_R_neighbourOf_36 ?_
          refine lv_iload hx hb d_R_neighbourOf_39 (lv_at hl 0 rfl) ?_
          refine va_iald hx hb hK hP 15 0 rfl rfl hw.1 d_R_neighbourOf_41 ?_
          replace hw := hw.2
          refine lv_iload hx hb d_R_neighbourOf_42 (lv_at hl 5 rfl) ?_
          refine lv_icmp_ne (tgt := 93) hx hb d_R_neighbourOf_44 (by decide) (fun hc => ?_) (fun hc => ?_)
          · replace hw := hw.1 hc
            refine lv_iinc (k := 7) (v := x6 + 1) (lv' := [(6, .int (x6 + 1)), (7, .int (g.1 14 x6.toNatClampNeg)), (0, .ref (a 9)), (1, .int x1), (2, .int x2), (3, .int x3), (4, .int x4), (5, .int x5)]) hx hb d_R_neighbourOf_93 hl rfl rfl (by decide) rfl (fun ls hl => ?_)
            refine lv_goto (tgt := 6) hx hb d_R_neighbourOf_96 (by decide) ?_
            exact ih_6 g x1 x2 x3 x4 x5 (x6 + 1) _ _ _ hP hD hS (lv_sub hl [2, 3, 4, 5, 6, 7, 0] rfl) hw
          · replace hw := hw.2 hc
            refine lv_aload_n hx hb d_R_neighbourOf_47 rfl (lv_at hl 1 rfl) ?_
            refine lv_iload hx hb d_R_neighbourOf_48 (lv_at hl 0 rfl) ?_
            refine lv_iload_n hx hb d_R_neighbourOf_50 rfl (lv_at hl 4 rfl) ?_
            refine aft_i (va_runV (As := [.int (g.1 14 x6.toNatClampNeg), .int x3]) (rest := []) ⟨hx, hb, hml, hown, hts⟩ (c_R_hasRoom l D a cI cZ _ g (g.1 14 x6.toNatClampNeg) x3 _ hw) ⟨(callB_of 2 hts good_R_hasRoom rfl rfl rfl (hts _ tb_3) (hts _ tb_205) hd_R_hasRoom ⟨Nat.le_of_ble_eq_true rfl, Nat.le_of_ble_eq_true rfl⟩), hts _ tb_207, hts _ ts_8⟩ (preV 9 3 hP hD hK hN rfl rfl) rfl rfl hl.1 rfl (lv_room (Nat.le_of_ble_eq_true rfl)) d_R_neighbourOf_51 ⟨Nat.zero_le _, Nat.zero_le _⟩) hD hS hA hK (fun r51 u51 H locs hw hP hD hS => ?_)
            refine lv_if_eq (tgt := 93) hx hb d_R_neighbourOf_54 (by decide) (fun hc => ?_) (fun hc => ?_)
            · replace hw := hw.1 hc
              refine lv_iinc (k := 7) (v := x6 + 1) (lv' := [(6, .int (x6 + 1)), (7, .int (g.1 14 x6.toNatClampNeg)), (0, .ref (a 9)), (1, .int x1), (2, .int x2), (3, .int x3), (4, .int x4), (5, .int x5)]) hx hb d_R_neighbourOf_93 hl rfl rfl (by decide) rfl (fun ls hl => ?_)
              refine lv_goto (tgt := 6) hx hb d_R_neighbourOf_96 (by decide) ?_
              exact ih_6 u51 x1 x2 x3 x4 x5 (x6 + 1) _ _ _ hP hD hS (lv_sub hl [2, 3, 4, 5, 6, 7, 0] rfl) hw
            · replace hw := hw.2 hc
              refine lv_aload_n hx hb d_R_neighbourOf_57 rfl (lv_at hl 1 rfl) ?_
              refine lv_iload hx hb d_R_neighbourOf_58 (lv_at hl 0 rfl) ?_
              refine aft_i (va_runV (As := [.int (g.1 14 x6.toNatClampNeg)]) (rest := []) ⟨hx, hb, hml, hown, hts⟩ (c_R_end l D a cI cZ _ u51 (g.1 14 x6.toNatClampNeg) _ hw) ⟨(callB_of 1 hts good_R_end rfl rfl rfl (hts _ tb_3) (hts _ tb_209) hd_R_end ⟨Nat.le_of_ble_eq_true rfl, Nat.le_of_ble_eq_true rfl⟩), hts _ tb_211, hts _ ts_9⟩ (preV 9 3 hP hD hK hN rfl rfl) rfl rfl hl.1 rfl (lv_room (Nat.le_of_ble_eq_true rfl)) d_R_neighbourOf_60 ⟨Nat.zero_le _, Nat.zero_le _⟩) hD hS hA hK (fun r60 u60 H locs hw hP hD hS => ?_)
              refine lv_iload_n hx hb d_R_neighbourOf_63 rfl (lv_at hl 3 rfl) ?_
              refine lv_icmp_ne (tgt := 70) hx hb d_R_neighbourOf_64 (by decide) (fun hc => ?_) (fun hc => ?_)
              · replace hw := hw.1 hc
                refine lv_iload hx hb d_R_neighbourOf_70 (lv_at hl 6 rfl) ?_
                refine lv_iconst (v := (-1)) hx hb d_R_neighbourOf_72 (by decide) ?_
                refine lv_icmp_ne (tgt := 93) hx hb d_R_neighbourOf_73 (by decide) (fun hc => ?_) (fun hc => ?_)
                · replace hw := hw.1 hc
                  refine lv_iinc (k := 7) (v := x6 + 1) (lv' := [(6, .int (x6 + 1)), (7, .int (g.1 14 x6.toNatClampNeg)), (0, .ref (a 9)), (1, .int x1), (2, .int x2), (3, .int x3), (4, .int x4), (5, .int x5)]) hx hb d_R_neighbourOf_93 hl rfl rfl (by decide) rfl (fun ls hl => ?_)
                  refine lv_goto (tgt := 6) hx hb d_R_neighbourOf_96 (by decide) ?_
                  exact ih_6 u60 x1 x2 x3 x4 x5 (x6 + 1) _ _ _ hP hD hS (lv_sub hl [2, 3, 4, 5, 6, 7, 0] rfl) hw
                · replace hw := hw.2 hc
                  refine lv_aload_n hx hb d_R_neighbourOf_76 rfl (lv_at hl 1 rfl) ?_
                  refine va_get (D := D) (ci := 3) (C := R_R) (T := F_R) (N := 9) hx hb hts in_R hown hK hP 9 rfl rfl 1 (by decide) (hts _ tb_61) (fun _ h9 => h9) rfl d_R_neighbourOf_77 ?_
                  refine lv_iload hx hb d_R_neighbourOf_80 (lv_at hl 0 rfl) ?_
                  refine va_iald hx hb hK hP 11 0 rfl rfl hw.1 d_R_neighbourOf_82 ?_
                  replace hw := hw.2
                  refine lv_iload_n hx hb d_R_neighbourOf_83 rfl (lv_at hl 3 rfl) ?_
                  refine lv_iload_n hx hb d_R_neighbourOf_84 rfl (lv_at hl 4 rfl) ?_
                  refine lv_iadd hx hb d_R_neighbourOf_85 ?_
                  refine lv_icmp_ne (tgt := 93) hx hb d_R_neighbourOf_86 (by decide) (fun hc => ?_) (fun hc => ?_)
                  · replace hw := hw.1 hc
                    refine lv_iinc (k := 7) (v := x6 + 1) (lv' := [(6, .int (x6 + 1)), (7, .int (g.1 14 x6.toNatClampNeg)), (0, .ref (a 9)), (1, .int x1), (2, .int x2), (3, .int x3), (4, .int x4), (5, .int x5)]) hx hb d_R_neighbourOf_93 hl rfl rfl (by decide) rfl (fun ls hl => ?_)
                    refine lv_goto (tgt := 6) hx hb d_R_neighbourOf_96 (by decide) ?_
                    exact ih_6 u60 x1 x2 x3 x4 x5 (x6 + 1) _ _ _ hP hD hS (lv_sub hl [2, 3, 4, 5, 6, 7, 0] rfl) hw
                  · replace hw := hw.2 hc
                    refine lv_iload hx hb d_R_neighbourOf_89 (lv_at hl 0 rfl) ?_
                    refine lv_istore (lv' := [(5, .int (g.1 14 x6.toNatClampNeg)), (7, .int (g.1 14 x6.toNatClampNeg)), (0, .ref (a 9)), (1, .int x1), (2, .int x2), (3, .int x3), (4, .int x4), (6, .int x6)]) hx hb d_R_neighbourOf_91 hl (by decide) rfl (fun ls hl => ?_)
                    refine lv_iinc (k := 7) (v := x6 + 1) (lv' := [(6, .int (x6 + 1)), (5, .int (g.1 14 x6.toNatClampNeg)), (7, .int (g.1 14 x6.toNatClampNeg)), (0, .ref (a 9)), (1, .int x1), (2, .int x2), (3, .int x3), (4, .int x4)]) hx hb d_R_neighbourOf_93 hl rfl rfl (by decide) rfl (fun ls hl => ?_)
                    refine lv_goto (tgt := 6) hx hb d_R_neighbourOf_96 (by decide) ?_
                    exact ih_6 u60 x1 x2 x3 x4 (g.1 14 x6.toNatClampNeg) (x6 + 1) _ _ _ hP hD hS (lv_sub hl [3, 4, 5, 6, 7, 1, 0] rfl) hw
              · replace hw := hw.2 hc
                refine lv_iload hx hb d_R_neighbourOf_67 (lv_at hl 0 rfl) ?_
                exact hret _ _ _ _ _ _ hw hP hD hS d_R_neighbourOf_69
  unfold wp_R_neighbourOf at hw
  refine lv_iconst (v := (-1)) hx hb d_R_neighbourOf_0 (by decide) ?_
  refine lv_istore (lv' := [(5, .int (-1)), (0, .ref (a 9)), (1, .int x1), (2, .int x2), (3, .int x3), (4, .int x4)]) hx hb d_R_neighbourOf_1 hl (by decide) rfl (fun ls hl => ?_)
  refine lv_iconst (v := 0) hx hb d_R_neighbourOf_3 (by decide) ?_
  refine lv_istore (lv' := [(6, .int 0), (5, .int (-1)), (0, .ref (a 9)), (1, .int x1), (2, .int x2), (3, .int x3), (4, .int x4)]) hx hb d_R_neighbourOf_4 hl (by decide) rfl (fun ls hl => ?_)
  obtain ⟨n, hw⟩ := hw
  exact k_6 n g x1 x2 x3 x4 (-1) 0 _ _ _ hP hD hS (lv_sub hl [2, 3, 4, 5, 6, 1, 0] rfl) hw
