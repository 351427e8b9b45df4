set_option maxHeartbeats 4000000 in
set_option maxRecDepth 100000 in
theorem c_B_mayGoOn (l : Launch) (D : va_G) (a : Nat → Nat) (cI cZ : ClassId) (sz : Nat) (g : St) (Q : Int32 → St → Prop) (hw : wp_B_mayGoOn g Q) : MT_z l y_B_mayGoOn b_B_mayGoOn 1 rm_B_mayGoOn (wE a cI cZ) D (ty_ cI cZ) sz g [.ref (a 19)] Q := by
  refine MTz_of (by decide +kernel) (Nat.le_of_ble_eq_true rfl) ?_
  intro p e s m args below meth c A Qt ls hx hb hml hts hown hN hK hP hD hA hl hret
  have hS : va_S A s.heap s.heap [] := va_S.rf
  have hl : lv_has ls 1 [(0, .ref (a 19))] := hl
  unfold wp_B_mayGoOn at hw
  refine lv_aload_n hx hb d_B_mayGoOn_0 rfl (lv_at hl 0 rfl) ?_
  refine va_get (D := D) (ci := 0) (C := R_B) (T := F_B) (N := 3) hx hb hts in_B hown hK hP 19 rfl rfl 1 (by decide) (hts _ tb_117) (fun _ h9 => h9) rfl d_B_mayGoOn_1 ?_
  refine lv_if_le (tgt := 19) hx hb d_B_mayGoOn_4 (by decide) (fun hc => ?_) (fun hc => ?_)
  · replace hw := hw.1 hc
    refine lv_iconst (v := 0) hx hb d_B_mayGoOn_19 (by decide) ?_
    exact hret _ _ _ _ _ _ rfl hw hP hD hS d_B_mayGoOn_20
  · replace hw := hw.2 hc
    refine lv_aload_n hx hb d_B_mayGoOn_7 rfl (lv_at hl 0 rfl) ?_
    refine va_get (D := D) (ci := 0) (C := R_B) (T := F_B) (N := 3) hx hb hts in_B hown hK hP 19 rfl rfl 1 (by decide) (hts _ tb_117) (fun _ h9 => h9) rfl d_B_mayGoOn_8 ?_
    refine lv_iconst (v := 4) hx hb d_B_mayGoOn_11 (by decide) ?_
    refine lv_icmp_ge (tgt := 19) hx hb d_B_mayGoOn_12 (by decide) (fun hc => ?_) (fun hc => ?_)
    · replace hw := hw.1 hc
      refine lv_iconst (v := 0) hx hb d_B_mayGoOn_19 (by decide) ?_
      exact hret _ _ _ _ _ _ rfl hw hP hD hS d_B_mayGoOn_20
    · replace hw := hw.2 hc
      refine lv_iconst (v := 1) hx hb d_B_mayGoOn_15 (by decide) ?_
      refine lv_goto (tgt := 20) hx hb d_B_mayGoOn_16 (by decide) ?_
      exact hret _ _ _ _ _ _ rfl hw hP hD hS d_B_mayGoOn_20
set_option maxHeartbeats 4000000 in
set_option maxRecDepth 100000 in
theorem c_B_begin (l : Launch) (D : va_G) (a : Nat → Nat) (cI cZ : ClassId) (sz : Nat) (g : St) (x1 : Int32) (x2 : Int32) (Q : St → Prop) (hw : wp_B_begin g x1 x2 Q) : MT_v l y_B_begin b_B_begin 3 rm_B_begin (wE a cI cZ) D (ty_ cI cZ) sz g [.ref (a 19), .int x1, .int x2] Q := by
  refine MTv_of (by decide +kernel) (Nat.le_of_ble_eq_true rfl) ?_
  intro p e s m args below meth c A Qt ls hx hb hml hts hown hN hK hP hD hA hl hret
  have hS : va_S A s.heap s.heap [] := va_S.rf
  have hl : lv_has ls 3 [(0, .ref (a 19)), (1, .int x1), (2, .int x2)] := hl
  have k_43 : ∀ (g : St) (H : Heap) (locs : List Loc) (ls : Array Slot), va_P D cls_ (wE a cI cZ g) H → va_D A (wE a cI cZ g) → va_S A s.heap H locs → lv_has ls 3 [(0, .ref (a 19))] → wb_B_begin_43 Q g → W p l e rm_B_begin s m args below meth c H locs 0 0 Qt (F0 m 43 ls []) := by
    intro g H locs ls hP hD hS hl hw
    unfold wb_B_begin_43 at hw
    refine lv_aload_n hx hb d_B_begin_43 rfl (lv_at hl 0 rfl) ?_
    refine lv_iconst (v := 1) hx hb d_B_begin_44 (by decide) ?_
    refine va_put (v := .int 1) (ty := .int) (D := D) (ci := 0) (C := R_B) (T := F_B) (N := 3) hx hb hts in_B t_B t_B_ok n_B hown hK hP hD hS 19 rfl rfl 0 (by decide) (hts _ tb_115) (fun _ h9 => h9) rfl (by decide +kernel) rfl rfl (Nat.le_of_ble_eq_true rfl) d_B_begin_45 (fun H locs hP hD hS => ?_)
    have hP : va_P D cls_ (wE a cI cZ (sI g 2 1)) H := pI_E_2 (g := g) (v := 1) hP
    have hD : va_D A (wE a cI cZ (sI g 2 1)) := dI_E_2 (g := g) (v := 1) hD
    generalize sI g 2 1 = g_45 at hw hP hD
    refine lv_aload_n hx hb d_B_begin_48 rfl (lv_at hl 0 rfl) ?_
    refine lv_iconst (v := 0) hx hb d_B_begin_49 (by decide) ?_
    refine va_put (v := .int 0) (ty := .int) (D := D) (ci := 0) (C := R_B) (T := F_B) (N := 3) hx hb hts in_B t_B t_B_ok n_B hown hK hP hD hS 19 rfl rfl 2 (by decide) (hts _ tb_119) (fun _ h9 => h9) rfl (by decide +kernel) rfl rfl (Nat.le_of_ble_eq_true rfl) d_B_begin_50 (fun H locs hP hD hS => ?_)
    have hP : va_P D cls_ (wE a cI cZ (sI g_45 4 0)) H := pI_E_4 (g := g_45) (v := 0) hP
    have hD : va_D A (wE a cI cZ (sI g_45 4 0)) := dI_E_4 (g := g_45) (v := 0) hD
    generalize sI g_45 4 0 = g_50 at hw hP hD
    exact hret _ _ _ _ _ hw hP hD hS d_B_begin_53
  have k_21 : ∀ (g : St) (x2 : Int32) (H : Heap) (locs : List Loc) (ls : Array Slot), va_P D cls_ (wE a cI cZ g) H → va_D A (wE a cI cZ g) → va_S A s.heap H locs → lv_has ls 3 [(0, .ref (a 19)), (2, .int x2)] → wb_B_begin_21 Q g x2 → W p l e rm_B_begin s m args below meth c H locs 0 0 Qt (F0 m 21 ls []) := by
    intro g x2 H locs ls hP hD hS hl hw
    unfold wb_B_begin_21 at hw
    refine lv_aload_n hx hb d_B_begin_21 rfl (lv_at hl 0 rfl) ?_
    refine lv_iconst (v := 0) hx hb d_B_begin_22 (by decide) ?_
    refine va_put (v := .int 0) (ty := .int) (D := D) (ci := 0) (C := R_B) (T := F_B) (N := 3) hx hb hts in_B t_B t_B_ok n_B hown hK hP hD hS 19 rfl rfl 0 (by decide) (hts _ tb_115) (fun _ h9 => h9) rfl (by decide +kernel) rfl rfl (Nat.le_of_ble_eq_true rfl) d_B_begin_23 (fun H locs hP hD hS => ?_)
    have hP : va_P D cls_ (wE a cI cZ (sI g 2 0)) H := pI_E_2 (g := g) (v := 0) hP
    have hD : va_D A (wE a cI cZ (sI g 2 0)) := dI_E_2 (g := g) (v := 0) hD
    generalize sI g 2 0 = g_23 at hw hP hD
    refine lv_iload_n hx hb d_B_begin_26 rfl (lv_at hl 1 rfl) ?_
    refine lv_if_eq (tgt := 53) hx hb d_B_begin_27 (by decide) (fun hc => ?_) (fun hc => ?_)
    · replace hw := hw.1 hc
      exact hret _ _ _ _ _ hw hP hD hS d_B_begin_53
    · replace hw := hw.2 hc
      refine lv_aload_n hx hb d_B_begin_30 rfl (lv_at hl 0 rfl) ?_
      refine lv_dup hx hb d_B_begin_31 rfl ?_
      refine va_get (D := D) (ci := 0) (C := R_B) (T := F_B) (N := 3) hx hb hts in_B hown hK hP 19 rfl rfl 2 (by decide) (hts _ tb_119) (fun _ h9 => h9) rfl d_B_begin_32 ?_
      refine lv_iconst (v := 1) hx hb d_B_begin_35 (by decide) ?_
      refine lv_iadd hx hb d_B_begin_36 ?_
      refine va_put (v := .int ((g_23.2.1 4) + 1)) (ty := .int) (D := D) (ci := 0) (C := R_B) (T := F_B) (N := 3) hx hb hts in_B t_B t_B_ok n_B hown hK hP hD hS 19 rfl rfl 2 (by decide) (hts _ tb_119) (fun _ h9 => h9) rfl (by decide +kernel) rfl rfl (Nat.le_of_ble_eq_true rfl) d_B_begin_37 (fun H locs hP hD hS => ?_)
      have hP : va_P D cls_ (wE a cI cZ (sI g_23 4 ((g_23.2.1 4) + 1))) H := pI_E_4 (g := g_23) (v := (g_23.2.1 4) + 1) hP
      have hD : va_D A (wE a cI cZ (sI g_23 4 ((g_23.2.1 4) + 1))) := dI_E_4 (g := g_23) (v := (g_23.2.1 4) + 1) hD
      generalize sI g_23 4 ((g_23.2.1 4) + 1) = g_37 at hw hP hD
      refine lv_goto (tgt := 53) hx hb d_B_begin_40 (by decide) ?_
      exact hret _ _ _ _ _ hw hP hD hS d_B_begin_53
  unfold wp_B_begin at hw
  refine lv_aload_n hx hb d_B_begin_0 rfl (lv_at hl 0 rfl) ?_
  refine lv_iconst (v := 1) hx hb d_B_begin_1 (by decide) ?_
  refine va_put (v := .int 1) (ty := .int) (D := D) (ci := 0) (C := R_B) (T := F_B) (N := 3) hx hb hts in_B t_B t_B_ok n_B hown hK hP hD hS 19 rfl rfl 1 (by decide) (hts _ tb_117) (fun _ h9 => h9) rfl (by decide +kernel) rfl rfl (Nat.le_of_ble_eq_true rfl) d_B_begin_2 (fun H locs hP hD hS => ?_)
  have hP : va_P D cls_ (wE a cI cZ (sI g 3 1)) H := pI_E_3 (g := g) (v := 1) hP
  have hD : va_D A (wE a cI cZ (sI g 3 1)) := dI_E_3 (g := g) (v := 1) hD
  generalize sI g 3 1 = g_2 at hw hP hD
  refine lv_iload_n hx hb d_B_begin_5 rfl (lv_at hl 1 rfl) ?_
  refine lv_if_eq (tgt := 43) hx hb d_B_begin_6 (by decide) (fun hc => ?_) (fun hc => ?_)
  · replace hw := hw.1 hc
    exact k_43 g_2 _ _ _ hP hD hS (lv_sub hl [0] rfl) hw
  · replace hw := hw.2 hc
    refine lv_iload_n hx hb d_B_begin_9 rfl (lv_at hl 2 rfl) ?_
    refine lv_if_eq (tgt := 21) hx hb d_B_begin_10 (by decide) (fun hc => ?_) (fun hc => ?_)
    · replace hw := hw.1 hc
      exact k_21 g_2 x2 _ _ _ hP hD hS (lv_sub hl [0, 2] rfl) hw
    · replace hw := hw.2 hc
      refine lv_aload_n hx hb d_B_begin_13 rfl (lv_at hl 0 rfl) ?_
      refine va_get (D := D) (ci := 0) (C := R_B) (T := F_B) (N := 3) hx hb hts in_B hown hK hP 19 rfl rfl 2 (by decide) (hts _ tb_119) (fun _ h9 => h9) rfl d_B_begin_14 ?_
      refine lv_iconst (v := 2) hx hb d_B_begin_17 (by decide) ?_
      refine lv_icmp_ge (tgt := 43) hx hb d_B_begin_18 (by decide) (fun hc => ?_) (fun hc => ?_)
      · replace hw := hw.1 hc
        exact k_43 g_2 _ _ _ hP hD hS (lv_sub hl [0] rfl) hw
      · replace hw := hw.2 hc
        exact k_21 g_2 x2 _ _ _ hP hD hS (lv_sub hl [0, 2] rfl) hw
set_option maxHeartbeats 4000000 in
set_option maxRecDepth 100000 in
theorem c_C_clear (l : Launch) (D : va_G) (a : Nat → Nat) (cI cZ : ClassId) (sz : Nat) (g : St) (Q : St → Prop) (hw : wp_C_clear g Q) : MT_v l y_C_clear b_C_clear 1 rm_C_clear (wE a cI cZ) D (ty_ cI cZ) sz g [.ref (a 18)] Q := by
  refine MTv_of (by decide +kernel) (Nat.le_of_ble_eq_true rfl) ?_
  intro p e s m args below meth c A Qt ls hx hb hml hts hown hN hK hP hD hA hl hret
  have hS : va_S A s.heap s.heap [] := va_S.rf
  have hl : lv_has ls 1 [(0, .ref (a 18))] := hl
  unfold wp_C_clear at hw
  refine lv_aload_n hx hb d_C_clear_0 rfl (lv_at hl 0 rfl) ?_
  refine lv_lconst (v := 0) hx hb d_C_clear_1 (by decide) ?_
  refine va_put (v := .long ((0 : Int64))) (ty := .long) (D := D) (ci := 1) (C := R_C) (T := F_C) (N := 2) hx hb hts in_C t_C t_C_ok n_C hown hK hP hD hS 18 rfl rfl 0 (by decide) (hts _ tb_102) (fun _ h9 => h9) rfl (by decide +kernel) rfl rfl (Nat.le_of_ble_eq_true rfl) d_C_clear_2 (fun H locs hP hD hS => ?_)
  have hP : va_P D cls_ (wE a cI cZ (sL g 0 ((0 : Int64)))) H := pL_E_0 (g := g) (v := (0 : Int64)) hP
  have hD : va_D A (wE a cI cZ (sL g 0 ((0 : Int64)))) := dL_E_0 (g := g) (v := (0 : Int64)) hD
  generalize sL g 0 ((0 : Int64)) = g_2 at hw hP hD
  refine lv_aload_n hx hb d_C_clear_5 rfl (lv_at hl 0 rfl) ?_
  refine lv_lconst (v := 0) hx hb d_C_clear_6 (by decide) ?_
  refine va_put (v := .long ((0 : Int64))) (ty := .long) (D := D) (ci := 1) (C := R_C) (T := F_C) (N := 2) hx hb hts in_C t_C t_C_ok n_C hown hK hP hD hS 18 rfl rfl 1 (by decide) (hts _ tb_103) (fun _ h9 => h9) rfl (by decide +kernel) rfl rfl (Nat.le_of_ble_eq_true rfl) d_C_clear_7 (fun H locs hP hD hS => ?_)
  have hP : va_P D cls_ (wE a cI cZ (sL g_2 1 ((0 : Int64)))) H := pL_E_1 (g := g_2) (v := (0 : Int64)) hP
  have hD : va_D A (wE a cI cZ (sL g_2 1 ((0 : Int64)))) := dL_E_1 (g := g_2) (v := (0 : Int64)) hD
  generalize sL g_2 1 ((0 : Int64)) = g_7 at hw hP hD
  exact hret _ _ _ _ _ hw hP hD hS d_C_clear_10
set_option maxHeartbeats 4000000 in
set_option maxRecDepth 100000 in
theorem c_C_add (l : Launch) (D : va_G) (a : Nat → Nat) (cI cZ : ClassId) (sz : Nat) (g : St) (x1 : Int32) (x2 : Int64) (Q : St → Prop) (hw : wp_C_add g x1 x2 Q) : MT_v l y_C_add b_C_add 4 rm_C_add (wE a cI cZ) D (ty_ cI cZ) sz g [.ref (a 18), .int x1, .long x2] Q := by
  refine MTv_of (by decide +kernel) (Nat.le_of_ble_eq_true rfl) ?_
  intro p e s m args below meth c A Qt ls hx hb hml hts hown hN hK hP hD hA hl hret
  have hS : va_S A s.heap s.heap [] := va_S.rf
  have hl : lv_has ls 4 [(0, .ref (a 18)), (1, .int x1), (2, .long x2)] := hl
  unfold wp_C_add at hw
  refine lv_iload_n hx hb d_C_add_0 rfl (lv_at hl 1 rfl) ?_
  refine lv_iconst (v := 1) hx hb d_C_add_1 (by decide) ?_
  refine lv_icmp_ne (tgt := 18) hx hb d_C_add_2 (by decide) (fun hc => ?_) (fun hc => ?_)
  · replace hw := hw.1 hc
    refine lv_aload_n hx hb d_C_add_18 rfl (lv_at hl 0 rfl) ?_
    refine lv_dup hx hb d_C_add_19 rfl ?_
    refine va_get (D := D) (ci := 1) (C := R_C) (T := F_C) (N := 2) hx hb hts in_C hown hK hP 18 rfl rfl 0 (by decide) (hts _ tb_102) (fun _ h9 => h9) rfl d_C_add_20 ?_
    refine lv_lload_n hx hb d_C_add_23 rfl (lv_at hl 2 rfl) ?_
    refine lv_lor hx hb d_C_add_24 ?_
    refine va_put (v := .long ((g.2.2 0) ||| x2)) (ty := .long) (D := D) (ci := 1) (C := R_C) (T := F_C) (N := 2) hx hb hts in_C t_C t_C_ok n_C hown hK hP hD hS 18 rfl rfl 0 (by decide) (hts _ tb_102) (fun _ h9 => h9) rfl (by decide +kernel) rfl rfl (Nat.le_of_ble_eq_true rfl) d_C_add_25 (fun H locs hP hD hS => ?_)
    have hP : va_P D cls_ (wE a cI cZ (sL g 0 ((g.2.2 0) ||| x2))) H := pL_E_0 (g := g) (v := (g.2.2 0) ||| x2) hP
    have hD : va_D A (wE a cI cZ (sL g 0 ((g.2.2 0) ||| x2))) := dL_E_0 (g := g) (v := (g.2.2 0) ||| x2) hD
    generalize sL g 0 ((g.2.2 0) ||| x2) = g_25 at hw hP hD
    exact hret _ _ _ _ _ hw hP hD hS d_C_add_28
  · replace hw := hw.2 hc
    refine lv_aload_n hx hb d_C_add_5 rfl (lv_at hl 0 rfl) ?_
    refine lv_dup hx hb d_C_add_6 rfl ?_
    refine va_get (D := D) (ci := 1) (C := R_C) (T := F_C) (N := 2) hx hb hts in_C hown hK hP 18 rfl rfl 1 (by decide) (hts _ tb_103) (fun _ h9 => h9) rfl d_C_add_7 ?_
    refine lv_lload_n hx hb d_C_add_10 rfl (lv_at hl 2 rfl) ?_
    refine lv_lor hx hb d_C_add_11 ?_
    refine va_put (v := .long ((g.2.2 1) ||| x2)) (ty := .long) (D := D) (ci := 1) (C := R_C) (T := F_C) (N := 2) hx hb hts in_C t_C t_C_ok n_C hown hK hP hD hS 18 rfl rfl 1 (by decide) (hts _ tb_103) (fun _ h9 => h9) rfl (by decide +kernel) rfl rfl (Nat.le_of_ble_eq_true rfl) d_C_add_12 (fun H locs hP hD hS => ?_)
    have hP : va_P D cls_ (wE a cI cZ (sL g 1 ((g.2.2 1) ||| x2))) H := pL_E_1 (g := g) (v := (g.2.2 1) ||| x2) hP
    have hD : va_D A (wE a cI cZ (sL g 1 ((g.2.2 1) ||| x2))) := dL_E_1 (g := g) (v := (g.2.2 1) ||| x2) hD
    generalize sL g 1 ((g.2.2 1) ||| x2) = g_12 at hw hP hD
    refine lv_goto (tgt := 28) hx hb d_C_add_15 (by decide) ?_
    exact hret _ _ _ _ _ hw hP hD hS d_C_add_28
set_option maxHeartbeats 4000000 in
set_option maxRecDepth 100000 in
theorem c_C_conflictWith (l : Launch) (D : va_G) (a : Nat → Nat) (cI cZ : ClassId) (sz : Nat) (g : St) (x1 : Int32) (x2 : Int64) (Q : Int32 → St → Prop) (hw : wp_C_conflictWith g x1 x2 Q) : MT_z l y_C_conflictWith b_C_conflictWith 6 rm_C_conflictWith (wE a cI cZ) D (ty_ cI cZ) sz g [.ref (a 18), .int x1, .long x2] Q := by
  refine MTz_of (by decide +kernel) (Nat.le_of_ble_eq_true rfl) ?_
  intro p e s m args below meth c A Qt ls hx hb hml hts hown hN hK hP hD hA hl hret
  have hS : va_S A s.heap s.heap [] := va_S.rf
  have hl : lv_has ls 6 [(0, .ref (a 18)), (1, .int x1), (2, .long x2)] := hl
  have k_21 : ∀ (g : St) (x2 : Int64) (z0 : Int64) (H : Heap) (locs : List Loc) (ls : Array Slot), va_P D cls_ (wE a cI cZ g) H → va_D A (wE a cI cZ g) → va_S A s.heap H locs → lv_has ls 6 [(2, .long x2)] → wb_C_conflictWith_21 Q g x2 z0 → W p l e rm_C_conflictWith s m args below meth c H locs 0 0 Qt (F0 m 21 ls [.long z0]) := by
    intro g x2 z0 H locs ls hP hD hS hl hw
    unfold wb_C_conflictWith_21 at hw
    refine lv_lstore (lv' := [(4, .long z0), (2, .long x2)]) hx hb d_C_conflictWith_21 hl (by decide) rfl (fun ls hl => ?_)
    refine lv_lload hx hb d_C_conflictWith_23 (lv_at hl 0 rfl) ?_
    refine lv_lload_n hx hb d_C_conflictWith_25 rfl (lv_at hl 1 rfl) ?_
    refine lv_land hx hb d_C_conflictWith_26 ?_
    refine lv_lconst (v := 0) hx hb d_C_conflictWith_27 (by decide) ?_
    refine W.lcmp hx hb d_C_conflictWith_28 ?_
    refine lv_if_eq (tgt := 36) hx hb d_C_conflictWith_29 (by decide) (fun hc => ?_) (fun hc => ?_)
    · replace hw := hw.1 hc
      refine lv_iconst (v := 0) hx hb d_C_conflictWith_36 (by decide) ?_
      exact hret _ _ _ _ _ _ rfl hw hP hD hS d_C_conflictWith_37
    · replace hw := hw.2 hc
      refine lv_iconst (v := 1) hx hb d_C_conflictWith_32 (by decide) ?_
      refine lv_goto (tgt := 37) hx hb d_C_conflictWith_33 (by decide) ?_
      exact hret _ _ _ _ _ _ rfl hw hP hD hS d_C_conflictWith_37
  unfold wp_C_conflictWith at hw
  refine lv_iload_n hx hb d_C_conflictWith_0 rfl (lv_at hl 1 rfl) ?_
  refine lv_iconst (v := 1) hx hb d_C_conflictWith_1 (by decide) ?_
  refine lv_icmp_ne (tgt := 17) hx hb d_C_conflictWith_2 (by decide) (fun hc => ?_) (fun hc => ?_)
  · replace hw := hw.1 hc
    refine lv_aload_n hx hb d_C_conflictWith_17 rfl (lv_at hl 0 rfl) ?_
    refine va_get (D := D) (ci := 1) (C := R_C) (T := F_C) (N := 2) hx hb hts in_C hown hK hP 18 rfl rfl 1 (by decide) (hts _ tb_103) (fun _ h9 => h9) rfl d_C_conflictWith_18 ?_
    exact k_21 g x2 (g.2.2 1) _ _ _ hP hD hS (lv_sub hl [2] rfl) hw
  · replace hw := hw.2 hc
    refine lv_aload_n hx hb d_C_conflictWith_5 rfl (lv_at hl 0 rfl) ?_
    refine va_get (D := D) (ci := 1) (C := R_C) (T := F_C) (N := 2) hx hb hts in_C hown hK hP 18 rfl rfl 0 (by decide) (hts _ tb_102) (fun _ h9 => h9) rfl d_C_conflictWith_6 ?_
    refine lv_aload_n hx hb d_C_conflictWith_9 rfl (lv_at hl 0 rfl) ?_
    refine va_get (D := D) (ci := 1) (C := R_C) (T := F_C) (N := 2) hx hb hts in_C hown hK hP 18 rfl rfl 1 (by decide) (hts _ tb_103) (fun _ h9 => h9) rfl d_C_conflictWith_10 ?_
    refine lv_lor hx hb d_C_conflictWith_13 ?_
    refine lv_goto (tgt := 21) hx hb d_C_conflictWith_14 (by decide) ?_
    exact k_21 g x2 ((g.2.2 0) ||| (g.2.2 1)) _ _ _ hP hD hS (lv_sub hl [2] rfl) hw
set_option maxHeartbeats 4000000 in
set_option maxRecDepth 100000 in
theorem c_P_has (l : Launch) (D : va_G) (a : Nat → Nat) (cI cZ : ClassId) (sz : Nat) (g : St) (x1 : Int32) (Q : Int32 → St → Prop) (hw : wp_P_has g x1 Q) : MT_z l y_P_has b_P_has 2 rm_P_has (wE a cI cZ) D (ty_ cI cZ) sz g [.ref (a 2), .int x1] Q := by
  refine MTz_of (by decide +kernel) (Nat.le_of_ble_eq_true rfl) ?_
  intro p e s m args below meth c A Qt ls hx hb hml hts hown hN hK hP hD hA hl hret
  have hS : va_S A s.heap s.heap [] := va_S.rf
  have hl : lv_has ls 2 [(0, .ref (a 2)), (1, .int x1)] := hl
  unfold wp_P_has at hw
  refine lv_iload_n hx hb d_P_has_0 rfl (lv_at hl 1 rfl) ?_
  refine lv_if_lt (tgt := 16) hx hb d_P_has_1 (by decide) (fun hc => ?_) (fun hc => ?_)
  · replace hw := hw.1 hc
    refine lv_iconst (v := 0) hx hb d_P_has_16 (by decide) ?_
    exact hret _ _ _ _ _ _ rfl hw hP hD hS d_P_has_17
  · replace hw := hw.2 hc
    refine lv_iload_n hx hb d_P_has_4 rfl (lv_at hl 1 rfl) ?_
    refine lv_aload_n hx hb d_P_has_5 rfl (lv_at hl 0 rfl) ?_
    refine va_get (D := D) (ci := 2) (C := R_P) (T := F_P) (N := 7) hx hb hts in_P hown hK hP 2 rfl rfl 6 (by decide) (hts _ tb_34) (fun _ h9 => h9) rfl d_P_has_6 ?_
    refine lv_icmp_ge (tgt := 16) hx hb d_P_has_9 (by decide) (fun hc => ?_) (fun hc => ?_)
    · replace hw := hw.1 hc
      refine lv_iconst (v := 0) hx hb d_P_has_16 (by decide) ?_
      exact hret _ _ _ _ _ _ rfl hw hP hD hS d_P_has_17
    · replace hw := hw.2 hc
      refine lv_iconst (v := 1) hx hb d_P_has_12 (by decide) ?_
      refine lv_goto (tgt := 17) hx hb d_P_has_13 (by decide) ?_
      exact hret _ _ _ _ _ _ rfl hw hP hD hS d_P_has_17
set_option maxHeartbeats 4000000 in
set_option maxRecDepth 100000 in
theorem c_P_isWaiting (l : Launch) (D : va_G) (a : Nat → Nat) (cI cZ : ClassId) (sz : Nat) (g : St) (x1 : Int32) (Q : Int32 → St → Prop) (hw : wp_P_isWaiting g x1 Q) : MT_z l y_P_isWaiting b_P_isWaiting 2 rm_P_isWaiting (wE a cI cZ) D (ty_ cI cZ) sz g [.ref (a 2), .int x1] Q := by
  refine MTz_of (by decide +kernel) (Nat.le_of_ble_eq_true rfl) ?_
  intro p e s m args below meth c A Qt ls hx hb hml hts hown hN hK hP hD hA hl hret
  have hS : va_S A s.heap s.heap [] := va_S.rf
  have hl : lv_has ls 2 [(0, .ref (a 2)), (1, .int x1)] := hl
  unfold wp_P_isWaiting at hw
  refine lv_aload_n hx hb d_P_isWaiting_0 rfl (lv_at hl 0 rfl) ?_
  refine lv_iload_n hx hb d_P_isWaiting_1 rfl (lv_at hl 1 rfl) ?_
  refine aft_i (va_runV (As := [.int x1]) (rest := []) ⟨hx, hb, hml, hown, hts⟩ (c_P_has l D a cI cZ _ g x1 _ hw) ⟨(callB_of 1 hts good_P_has rfl rfl rfl (hts _ tb_2) (hts _ tb_342) hd_P_has ⟨Nat.le_of_ble_eq_true rfl, Nat.le_of_ble_eq_true rfl⟩), hts _ tb_315, hts _ ts_26⟩ (preV 2 2 hP hD hK hN rfl rfl) rfl rfl hl.1 rfl (lv_room (Nat.le_of_ble_eq_true rfl)) d_P_isWaiting_2 ⟨Nat.zero_le _, Nat.zero_le _⟩) hD hS hA hK (fun r2 u2 H locs hw hP hD hS => ?_)
  refine lv_if_eq (tgt := 21) hx hb d_P_isWaiting_5 (by decide) (fun hc => ?_) (fun hc => ?_)
  · replace hw := hw.1 hc
    refine lv_iconst (v := 0) hx hb d_P_isWaiting_21 (by decide) ?_
    exact hret _ _ _ _ _ _ rfl hw hP hD hS d_P_isWaiting_22
  · replace hw := hw.2 hc
    refine lv_aload_n hx hb d_P_isWaiting_8 rfl (lv_at hl 0 rfl) ?_
    refine va_get (D := D) (ci := 2) (C := R_P) (T := F_P) (N := 7) hx hb hts in_P hown hK hP 2 rfl rfl 4 (by decide) (hts _ tb_30) (fun _ h9 => h9) rfl d_P_isWaiting_9 ?_
    refine lv_iload_n hx hb d_P_isWaiting_12 rfl (lv_at hl 1 rfl) ?_
    refine va_zald hx hb hK hP 7 1 rfl rfl hw.1 d_P_isWaiting_13 ?_
    replace hw := hw.2
    refine lv_if_ne (tgt := 21) hx hb d_P_isWaiting_14 (by decide) (fun hc => ?_) (fun hc => ?_)
    · replace hw := hw.1 hc
      refine lv_iconst (v := 0) hx hb d_P_isWaiting_21 (by decide) ?_
      exact hret _ _ _ _ _ _ rfl hw hP hD hS d_P_isWaiting_22
    · replace hw := hw.2 hc
      refine lv_iconst (v := 1) hx hb d_P_isWaiting_17 (by decide) ?_
      refine lv_goto (tgt := 22) hx hb d_P_isWaiting_18 (by decide) ?_
      exact hret _ _ _ _ _ _ rfl hw hP hD hS d_P_isWaiting_22
set_option maxHeartbeats 4000000 in
set_option maxRecDepth 100000 in
theorem c_E_sectorsFrom (l : Launch) (D : va_G) (a : Nat → Nat) (cI cZ : ClassId) (sz : Nat) (g : St) (x0 : Int32) (x1 : Int32) (Q : Int64 → St → Prop) (hw : wp_E_sectorsFrom g x0 x1 Q) : MT_l l y_E_sectorsFrom b_E_sectorsFrom 2 rm_E_sectorsFrom (wE a cI cZ) D (ty_ cI cZ) sz g [.int x0, .int x1] Q := by
  refine MTl_of (by decide +kernel) (Nat.le_of_ble_eq_true rfl) ?_
  intro p e s m args below meth c A Qt ls hx hb hml hts hown hN hK hP hD hA hl hret
  have hS : va_S A s.heap s.heap [] := va_S.rf
  have hl : lv_has ls 2 [(0, .int x0), (1, .int x1)] := hl
  unfold wp_E_sectorsFrom at hw
  refine lv_lconst (v := 1) hx hb d_E_sectorsFrom_0 (by decide) ?_
  refine lv_iload_n hx hb d_E_sectorsFrom_1 rfl (lv_at hl 1 rfl) ?_
  refine lv_lshl (v := ((1 : Int64)) <<< (x1.toInt64 &&& 63)) hx hb d_E_sectorsFrom_2 rfl ?_
  refine lv_lconst (v := 1) hx hb d_E_sectorsFrom_3 (by decide) ?_
  refine lv_lsub hx hb d_E_sectorsFrom_4 ?_
  refine lv_iload_n hx hb d_E_sectorsFrom_5 rfl (lv_at hl 0 rfl) ?_
  refine lv_lshl (v := ((((1 : Int64)) <<< (x1.toInt64 &&& 63)) - ((1 : Int64))) <<< (x0.toInt64 &&& 63)) hx hb d_E_sectorsFrom_6 rfl ?_
  exact hret _ _ _ _ _ _ hw hP hD hS d_E_sectorsFrom_7
set_option maxHeartbeats 4000000 in
set_option maxRecDepth 100000 in
theorem c_P_sectors (l : Launch) (D : va_G) (a : Nat → Nat) (cI cZ : ClassId) (sz : Nat) (g : St) (x1 : Int32) (Q : Int64 → St → Prop) (hw : wp_P_sectors g x1 Q) : MT_l l y_P_sectors b_P_sectors 2 rm_P_sectors (wE a cI cZ) D (ty_ cI cZ) sz g [.ref (a 2), .int x1] Q := by
  refine MTl_of (by decide +kernel) (Nat.le_of_ble_eq_true rfl) ?_
  intro p e s m args below meth c A Qt ls hx hb hml hts hown hN hK hP hD hA hl hret
  have hS : va_S A s.heap s.heap [] := va_S.rf
  have hl : lv_has ls 2 [(0, .ref (a 2)), (1, .int x1)] := hl
  unfold wp_P_sectors at hw
  refine lv_aload_n hx hb d_P_sectors_0 rfl (lv_at hl 0 rfl) ?_
  refine va_get (D := D) (ci := 2) (C := R_P) (T := F_P) (N := 7) hx hb hts in_P hown hK hP 2 rfl rfl 1 (by decide) (hts _ tb_25) (fun _ h9 => h9) rfl d_P_sectors_1 ?_
  refine lv_iload_n hx hb d_P_sectors_4 rfl (lv_at hl 1 rfl) ?_
  refine va_iald hx hb hK hP 4 0 rfl rfl hw.1 d_P_sectors_5 ?_
  replace hw := hw.2
  refine lv_aload_n hx hb d_P_sectors_6 rfl (lv_at hl 0 rfl) ?_
  refine va_get (D := D) (ci := 2) (C := R_P) (T := F_P) (N := 7) hx hb hts in_P hown hK hP 2 rfl rfl 2 (by decide) (hts _ tb_26) (fun _ h9 => h9) rfl d_P_sectors_7 ?_
  refine lv_iload_n hx hb d_P_sectors_10 rfl (lv_at hl 1 rfl) ?_
  refine va_iald hx hb hK hP 5 0 rfl rfl hw.1 d_P_sectors_11 ?_
  replace hw := hw.2
  refine aft_l (va_runSN (As := [.int (g.1 2 x1.toNatClampNeg), .int (g.1 3 x1.toNatClampNeg)]) (rest := []) ⟨hx, hb, hml, hown, hts⟩ (c_E_sectorsFrom l D a cI cZ _ g (g.1 2 x1.toNatClampNeg) (g.1 3 x1.toNatClampNeg) _ hw) ⟨(va_cnB 2 hts good_E_sectorsFrom rfl rfl rfl (hN _ tn_189) (hts _ tb_1) hd_E_sectorsFrom ⟨Nat.le_of_ble_eq_true rfl, Nat.le_of_ble_eq_true rfl⟩), (hts _ tb_190), trivial⟩ (preS hP hD hK hN) rfl rfl hl.1 rfl (lv_room (Nat.le_of_ble_eq_true rfl)) d_P_sectors_12 ⟨Nat.zero_le _, Nat.zero_le _⟩) hD hS hA hK (fun r12 u12 H locs hw hP hD hS => ?_)
  exact hret _ _ _ _ _ _ hw hP hD hS d_P_sectors_15
set_option maxHeartbeats 4000000 in
set_option maxRecDepth 100000 in
theorem c_P_add (l : Launch) (D : va_G) (a : Nat → Nat) (cI cZ : ClassId) (sz : Nat) (g : St) (x1 : Int32) (x2 : Int32) (x3 : Int32) (x4 : Int32) (Q : Int32 → St → Prop) (hw : wp_P_add g x1 x2 x3 x4 Q) : MT_i l y_P_add b_P_add 7 rm_P_add (wE a cI cZ) D (ty_ cI cZ) sz g [.ref (a 2), .int x1, .int x2, .int x3, .int x4] Q := by
  refine MTi_of (by decide +kernel) (Nat.le_of_ble_eq_true rfl) ?_
  intro p e s m args below meth c A Qt ls hx hb hml hts hown hN hK hP hD hA hl hret
  have hS : va_S A s.heap s.heap [] := va_S.rf
  have hl : lv_has ls 7 [(0, .ref (a 2)), (1, .int x1), (2, .int x2), (3, .int x3), (4, .int x4)] := hl
  have k_33 : ∀ (n : Nat) (g : St) (x3 : Int32) (x4 : Int32) (x5 : Int32) (x6 : Int32) (H : Heap) (locs : List Loc) (ls : Array Slot), va_P D cls_ (wE a cI cZ g) H → va_D A (wE a cI cZ g) → va_S A s.heap H locs → lv_has ls 7 [(0, .ref (a 2)), (3, .int x3), (4, .int x4), (5, .int x5), (6, .int x6)] → wl_P_add_33 Q n g x3 x4 x5 x6 → W p l e rm_P_add s m args below meth c H locs 0 0 Qt (F0 m 33 ls []) := by
    intro n
    induction n with
    | zero => intro g x3 x4 x5 x6 H locs ls hP hD hS hl hw; exact False.elim hw
    | succ n_33 ih_33 =>
      intro g x3 x4 x5 x6 H locs ls hP hD hS hl hw
      unfold wl_P_add_33 at hw
      refine lv_iload hx hb d_P_add_33 (lv_at hl 4 rfl) ?_
      refine lv_iload_n hx hb d_P_add_35 rfl (lv_at hl 1 rfl) ?_
      refine lv_icmp_ge (tgt := 63) hx hb d_P_add_36 (by decide) (fun hc => ?_) (fun hc => ?_)
      · replace hw := hw.1 hc
        refine lv_aload_n hx hb d_P_add_63 rfl (lv_at hl 0 rfl) ?_
        refine lv_dup hx hb d_P_add_64 rfl ?_
        refine va_get (D := D) (ci := 2) (C := R_P) (T := F_P) (N := 7) hx hb hts in_P hown hK hP 2 rfl rfl 6 (by decide) (hts _ tb_34) (fun _ h9 => h9) rfl d_P_add_65 ?_
        refine lv_iconst (v := 1) hx hb d_P_add_68 (by decide) ?_
        refine lv_iadd hx hb d_P_add_69 ?_
        refine va_put (v := .int ((g.2.1 0) + 1)) (ty := .int) (D := D) (ci := 2) (C := R_P) (T := F_P) (N := 7) hx hb hts in_P t_P t_P_ok n_P hown hK hP hD hS 2 rfl rfl 6 (by decide) (hts _ tb_34) (fun _ h9 => h9) rfl (by decide +kernel) rfl rfl (Nat.le_of_ble_eq_true rfl) d_P_add_70 (fun H locs hP hD hS => ?_)
        have hP : va_P D cls_ (wE a cI cZ (sI g 0 ((g.2.1 0) + 1))) H := pI_E_0 (g := g) (v := (g.2.1 0) + 1) hP
        have hD : va_D A (wE a cI cZ (sI g 0 ((g.2.1 0) + 1))) := dI_E_0 (g := g) (v := (g.2.1 0) + 1) hD
        generalize sI g 0 ((g.2.1 0) + 1) = g_70 at hw hP hD
        refine lv_iload hx hb d_P_add_73 (lv_at hl 3 rfl) ?_
        exact hret _ _ _ _ _ _ hw hP hD hS d_P_add_75
      · replace hw := hw.2 hc
        refine lv_aload_n hx hb d_P_add_39 rfl (lv_at hl 0 rfl) ?_
        refine va_get (D := D) (ci := 2) (C := R_P) (T := F_P) (N := 7) hx hb hts in_P hown hK hP 2 rfl rfl 5 (by decide) (hts _ tb_32) (fun _ h9 => h9) rfl d_P_add_40 ?_
        refine lv_iload hx hb d_P_add_43 (lv_at hl 3 rfl) ?_
        refine lv_bipush (v := 8) hx hb d_P_add_45 (by decide) ?_
        refine lv_imul hx hb d_P_add_47 ?_
        refine lv_iload hx hb d_P_add_48 (lv_at hl 4 rfl) ?_
        refine lv_iadd hx hb d_P_add_50 ?_
        refine lv_iload hx hb d_P_add_51 (lv_at hl 2 rfl) ?_
        refine lv_iload hx hb d_P_add_53 (lv_at hl 4 rfl) ?_
        refine lv_iadd hx hb d_P_add_55 ?_
        refine va_iast hx hb hK hP hD hS 8 0 rfl rfl hw.1 d_P_add_56 (fun H locs hP hD hS => ?_)
        replace hw := hw.2
        have hP : va_P D cls_ (wE a cI cZ (sA g 6 ((x5 * 8) + x6).toNatClampNeg (x4 + x6))) H := pA_E_6 (g := g) (j := ((x5 * 8) + x6).toNatClampNeg) (x := (x4 + x6)) hP
        have hD : va_D A (wE a cI cZ (sA g 6 ((x5 * 8) + x6).toNatClampNeg (x4 + x6))) := dA_E_6 (g := g) (j := ((x5 * 8) + x6).toNatClampNeg) (x := (x4 + x6)) hD
        generalize sA g 6 ((x5 * 8) + x6).toNatClampNeg (x4 + x6) = g_56 at hw hP hD
        refine lv_iinc (k := 4) (v := x6 + 1) (lv' := [(6, .int (x6 + 1)), (0, .ref (a 2)), (3, .int x3), (4, .int x4), (5, .int x5)]) hx hb d_P_add_57 hl rfl rfl (by decide) rfl (fun ls hl => ?_)
        refine lv_goto (tgt := 33) hx hb d_P_add_60 (by decide) ?_
        exact ih_33 g_56 x3 x4 x5 (x6 + 1) _ _ _ hP hD hS (lv_sub hl [1, 2, 3, 4, 0] rfl) hw
  unfold wp_P_add at hw
  refine lv_aload_n hx hb d_P_add_0 rfl (lv_at hl 0 rfl) ?_
  refine va_get (D := D) (ci := 2) (C := R_P) (T := F_P) (N := 7) hx hb hts in_P hown hK hP 2 rfl rfl 6 (by decide) (hts _ tb_34) (fun _ h9 => h9) rfl d_P_add_1 ?_
  refine lv_istore (lv' := [(5, .int (g.2.1 0)), (0, .ref (a 2)), (1, .int x1), (2, .int x2), (3, .int x3), (4, .int x4)]) hx hb d_P_add_4 hl (by decide) rfl (fun ls hl => ?_)
  refine lv_aload_n hx hb d_P_add_6 rfl (lv_at hl 1 rfl) ?_
  refine va_get (D := D) (ci := 2) (C := R_P) (T := F_P) (N := 7) hx hb hts in_P hown hK hP 2 rfl rfl 0 (by decide) (hts _ tb_23) (fun _ h9 => h9) rfl d_P_add_7 ?_
  refine lv_iload hx hb d_P_add_10 (lv_at hl 0 rfl) ?_
  refine lv_iload_n hx hb d_P_add_12 rfl (lv_at hl 2 rfl) ?_
  refine va_iast hx hb hK hP hD hS 3 0 rfl rfl hw.1 d_P_add_13 (fun H locs hP hD hS => ?_)
  replace hw := hw.2
  have hP : va_P D cls_ (wE a cI cZ (sA g 1 (g.2.1 0).toNatClampNeg x1)) H := pA_E_1 (g := g) (j := (g.2.1 0).toNatClampNeg) (x := x1) hP
  have hD : va_D A (wE a cI cZ (sA g 1 (g.2.1 0).toNatClampNeg x1)) := dA_E_1 (g := g) (j := (g.2.1 0).toNatClampNeg) (x := x1) hD
  generalize sA g 1 (g.2.1 0).toNatClampNeg x1 = g_13 at hw hP hD
  refine lv_aload_n hx hb d_P_add_14 rfl (lv_at hl 1 rfl) ?_
  refine va_get (D := D) (ci := 2) (C := R_P) (T := F_P) (N := 7) hx hb hts in_P hown hK hP 2 rfl rfl 1 (by decide) (hts _ tb_25) (fun _ h9 => h9) rfl d_P_add_15 ?_
  refine lv_iload hx hb d_P_add_18 (lv_at hl 0 rfl) ?_
  refine lv_iload_n hx hb d_P_add_20 rfl (lv_at hl 3 rfl) ?_
  refine va_iast hx hb hK hP hD hS 4 0 rfl rfl hw.1 d_P_add_21 (fun H locs hP hD hS => ?_)
  replace hw := hw.2
  have hP : va_P D cls_ (wE a cI cZ (sA g_13 2 (g.2.1 0).toNatClampNeg x2)) H := pA_E_2 (g := g_13) (j := (g.2.1 0).toNatClampNeg) (x := x2) hP
  have hD : va_D A (wE a cI cZ (sA g_13 2 (g.2.1 0).toNatClampNeg x2)) := dA_E_2 (g := g_13) (j := (g.2.1 0).toNatClampNeg) (x := x2) hD
  generalize sA g_13 2 (g.2.1 0).toNatClampNeg x2 = g_21 at hw hP hD
  refine lv_aload_n hx hb d_P_add_22 rfl (lv_at hl 1 rfl) ?_
  refine va_get (D := D) (ci := 2) (C := R_P) (T := F_P) (N := 7) hx hb hts in_P hown hK hP 2 rfl rfl 2 (by decide) (hts _ tb_26) (fun _ h9 => h9) rfl d_P_add_23 ?_
  refine lv_iload hx hb d_P_add_26 (lv_at hl 0 rfl) ?_
  refine lv_iload_n hx hb d_P_add_28 rfl (lv_at hl 4 rfl) ?_
  refine va_iast hx hb hK hP hD hS 5 0 rfl rfl hw.1 d_P_add_29 (fun H locs hP hD hS => ?_)
  replace hw := hw.2
  have hP : va_P D cls_ (wE a cI cZ (sA g_21 3 (g.2.1 0).toNatClampNeg x3)) H := pA_E_3 (g := g_21) (j := (g.2.1 0).toNatClampNeg) (x := x3) hP
  have hD : va_D A (wE a cI cZ (sA g_21 3 (g.2.1 0).toNatClampNeg x3)) := dA_E_3 (g := g_21) (j := (g.2.1 0).toNatClampNeg) (x := x3) hD
  generalize sA g_21 3 (g.2.1 0).toNatClampNeg x3 = g_29 at hw hP hD
  refine lv_iconst (v := 0) hx hb d_P_add_30 (by decide) ?_
  refine lv_istore (lv' := [(6, .int 0), (5, .int (g.2.1 0)), (0, .ref (a 2)), (1, .int x1), (2, .int x2), (3, .int x3), (4, .int x4)]) hx hb d_P_add_31 hl (by decide) rfl (fun ls hl => ?_)
  obtain ⟨n, hw⟩ := hw
  exact k_33 n g_29 x3 x4 (g.2.1 0) 0 _ _ _ hP hD hS (lv_sub hl [2, 5, 6, 1, 0] rfl) hw
set_option maxHeartbeats 4000000 in
set_option maxRecDepth 100000 in
theorem c_P_carryOut (l : Launch) (D : va_G) (a : Nat → Nat) (cI cZ : ClassId) (sz : Nat) (g : St) (x1 : Int32) (Q : St → Prop) (hw : wp_P_carryOut g x1 Q) : MT_v l y_P_carryOut b_P_carryOut 4 rm_P_carryOut (wE a cI cZ) D (ty_ cI cZ) sz g [.ref (a 2), .int x1, .ref (a 1)] Q := by
  refine MTv_of (by decide +kernel) (Nat.le_of_ble_eq_true rfl) ?_
  intro p e s m args below meth c A Qt ls hx hb hml hts hown hN hK hP hD hA hl hret
  have hS : va_S A s.heap s.heap [] := va_S.rf
  have hl : lv_has ls 4 [(0, .ref (a 2)), (1, .int x1), (2, .ref (a 1))] := hl
  have k_60 : ∀ (g : St) (x1 : Int32) (H : Heap) (locs : List Loc) (ls : Array Slot), va_P D cls_ (wE a cI cZ g) H → va_D A (wE a cI cZ g) → va_S A s.heap H locs → lv_has ls 4 [(0, .ref (a 2)), (1, .int x1)] → wb_P_carryOut_60 Q g x1 → W p l e rm_P_carryOut s m args below meth c H locs 0 0 Qt (F0 m 60 ls []) := by
    intro g x1 H locs ls hP hD hS hl hw
    unfold wb_P_carryOut_60 at hw
    refine lv_aload_n hx hb d_P_carryOut_60 rfl (lv_at hl 0 rfl) ?_
    refine va_get (D := D) (ci := 2) (C := R_P) (T := F_P) (N := 7) hx hb hts in_P hown hK hP 2 rfl rfl 4 (by decide) (hts _ tb_30) (fun _ h9 => h9) rfl d_P_carryOut_61 ?_
    refine lv_iload_n hx hb d_P_carryOut_64 rfl (lv_at hl 1 rfl) ?_
    refine lv_iconst (v := 1) hx hb d_P_carryOut_65 (by decide) ?_
    refine va_zast hx hb hK hP hD hS 7 1 rfl rfl hw.1 d_P_carryOut_66 (fun H locs hP hD hS => ?_)
    replace hw := hw.2
    have hP : va_P D cls_ (wE a cI cZ (sA g 5 x1.toNatClampNeg (vp_nar .boolean 1))) H := pA_E_5 (g := g) (j := x1.toNatClampNeg) (x := (vp_nar .boolean 1)) hP
    have hD : va_D A (wE a cI cZ (sA g 5 x1.toNatClampNeg (vp_nar .boolean 1))) := dA_E_5 (g := g) (j := x1.toNatClampNeg) (x := (vp_nar .boolean 1)) hD
    generalize sA g 5 x1.toNatClampNeg (vp_nar .boolean 1) = g_66 at hw hP hD
    exact hret _ _ _ _ _ hw hP hD hS d_P_carryOut_67
  unfold wp_P_carryOut at hw
  refine lv_iload_n hx hb d_P_carryOut_0 rfl (lv_at hl 1 rfl) ?_
  refine lv_bipush (v := 8) hx hb d_P_carryOut_1 (by decide) ?_
  refine lv_imul hx hb d_P_carryOut_3 ?_
  refine lv_istore_n (lv' := [(3, .int (x1 * 8)), (0, .ref (a 2)), (1, .int x1), (2, .ref (a 1))]) hx hb d_P_carryOut_4 rfl hl (by decide) rfl (fun ls hl => ?_)
  refine lv_aload_n hx hb d_P_carryOut_5 rfl (lv_at hl 1 rfl) ?_
  refine va_get (D := D) (ci := 2) (C := R_P) (T := F_P) (N := 7) hx hb hts in_P hown hK hP 2 rfl rfl 0 (by decide) (hts _ tb_23) (fun _ h9 => h9) rfl d_P_carryOut_6 ?_
  refine lv_iload_n hx hb d_P_carryOut_9 rfl (lv_at hl 2 rfl) ?_
  refine va_iald hx hb hK hP 3 0 rfl rfl hw.1 d_P_carryOut_10 ?_
  replace hw := hw.2
  refine lv_iconst (v := 1) hx hb d_P_carryOut_11 (by decide) ?_
  refine lv_icmp_ne (tgt := 39) hx hb d_P_carryOut_12 (by decide) (fun hc => ?_) (fun hc => ?_)
  · replace hw := hw.1 hc
    refine lv_aload_n hx hb d_P_carryOut_39 rfl (lv_at hl 3 rfl) ?_
    refine lv_aload_n hx hb d_P_carryOut_40 rfl (lv_at hl 1 rfl) ?_
    refine va_get (D := D) (ci := 2) (C := R_P) (T := F_P) (N := 7) hx hb hts in_P hown hK hP 2 rfl rfl 1 (by decide) (hts _ tb_25) (fun _ h9 => h9) rfl d_P_carryOut_41 ?_
    refine lv_iload_n hx hb d_P_carryOut_44 rfl (lv_at hl 2 rfl) ?_
    refine va_iald hx hb hK hP 4 0 rfl rfl hw.1 d_P_carryOut_45 ?_
    replace hw := hw.2
    refine lv_aload_n hx hb d_P_carryOut_46 rfl (lv_at hl 1 rfl) ?_
    refine va_get (D := D) (ci := 2) (C := R_P) (T := F_P) (N := 7) hx hb hts in_P hown hK hP 2 rfl rfl 5 (by decide) (hts _ tb_32) (fun _ h9 => h9) rfl d_P_carryOut_47 ?_
    refine lv_iload_n hx hb d_P_carryOut_50 rfl (lv_at hl 0 rfl) ?_
    refine lv_aload_n hx hb d_P_carryOut_51 rfl (lv_at hl 1 rfl) ?_
    refine va_get (D := D) (ci := 2) (C := R_P) (T := F_P) (N := 7) hx hb hts in_P hown hK hP 2 rfl rfl 2 (by decide) (hts _ tb_26) (fun _ h9 => h9) rfl d_P_carryOut_52 ?_
    refine lv_iload_n hx hb d_P_carryOut_55 rfl (lv_at hl 2 rfl) ?_
    refine va_iald hx hb hK hP 5 0 rfl rfl hw.1 d_P_carryOut_56 ?_
    replace hw := hw.2
    obtain ⟨h1, h2, h3, h4, h5, hw⟩ := hw
    refine va_copyi hx hb (by rw [hml]; exact hl.1.symm) hown (hts _ tb_301) (hts _ tb_303) (hts _ tb_302) (hts _ tb_8) hK hP hD hS 1 8 0 0 rfl rfl rfl rfl rfl h1 h2 h3 h4 h5 (fun _ _ => rfl) (Nat.le_of_ble_eq_true rfl) (Nat.le_of_ble_eq_true rfl) d_P_carryOut_57 (fun H locs hP hD hS => ?_)
    have hP : va_P D cls_ (wE a cI cZ (sC g 6 (va_cpy (g.1 0) (g.1 6) (g.1 2 x1.toNatClampNeg).toNatClampNeg (x1 * 8).toNatClampNeg (g.1 3 x1.toNatClampNeg).toNatClampNeg))) H := pC_E_6 (g := g) (f := va_cpy (g.1 0) (g.1 6) (g.1 2 x1.toNatClampNeg).toNatClampNeg (x1 * 8).toNatClampNeg (g.1 3 x1.toNatClampNeg).toNatClampNeg) hP
    have hD : va_D A (wE a cI cZ (sC g 6 (va_cpy (g.1 0) (g.1 6) (g.1 2 x1.toNatClampNeg).toNatClampNeg (x1 * 8).toNatClampNeg (g.1 3 x1.toNatClampNeg).toNatClampNeg))) := dC_E_6 (g := g) (f := va_cpy (g.1 0) (g.1 6) (g.1 2 x1.toNatClampNeg).toNatClampNeg (x1 * 8).toNatClampNeg (g.1 3 x1.toNatClampNeg).toNatClampNeg) hD
    generalize sC g 6 (va_cpy (g.1 0) (g.1 6) (g.1 2 x1.toNatClampNeg).toNatClampNeg (x1 * 8).toNatClampNeg (g.1 3 x1.toNatClampNeg).toNatClampNeg) = g_57 at hw hP hD
    exact k_60 g_57 x1 _ _ _ hP hD hS (lv_sub hl [1, 2] rfl) hw
  · replace hw := hw.2 hc
    refine lv_aload_n hx hb d_P_carryOut_15 rfl (lv_at hl 1 rfl) ?_
    refine va_get (D := D) (ci := 2) (C := R_P) (T := F_P) (N := 7) hx hb hts in_P hown hK hP 2 rfl rfl 5 (by decide) (hts _ tb_32) (fun _ h9 => h9) rfl d_P_carryOut_16 ?_
    refine lv_iload_n hx hb d_P_carryOut_19 rfl (lv_at hl 0 rfl) ?_
    refine lv_aload_n hx hb d_P_carryOut_20 rfl (lv_at hl 3 rfl) ?_
    refine lv_aload_n hx hb d_P_carryOut_21 rfl (lv_at hl 1 rfl) ?_
    refine va_get (D := D) (ci := 2) (C := R_P) (T := F_P) (N := 7) hx hb hts in_P hown hK hP 2 rfl rfl 1 (by decide) (hts _ tb_25) (fun _ h9 => h9) rfl d_P_carryOut_22 ?_
    refine lv_iload_n hx hb d_P_carryOut_25 rfl (lv_at hl 2 rfl) ?_
    refine va_iald hx hb hK hP 4 0 rfl rfl hw.1 d_P_carryOut_26 ?_
    replace hw := hw.2
    refine lv_aload_n hx hb d_P_carryOut_27 rfl (lv_at hl 1 rfl) ?_
    refine va_get (D := D) (ci := 2) (C := R_P) (T := F_P) (N := 7) hx hb hts in_P hown hK hP 2 rfl rfl 2 (by decide) (hts _ tb_26) (fun _ h9 => h9) rfl d_P_carryOut_28 ?_
    refine lv_iload_n hx hb d_P_carryOut_31 rfl (lv_at hl 2 rfl) ?_
    refine va_iald hx hb hK hP 5 0 rfl rfl hw.1 d_P_carryOut_32 ?_
    replace hw := hw.2
    obtain ⟨h1, h2, h3, h4, h5, hw⟩ := hw
    refine va_copyi hx hb (by rw [hml]; exact hl.1.symm) hown (hts _ tb_301) (hts _ tb_303) (hts _ tb_302) (hts _ tb_8) hK hP hD hS 8 1 0 0 rfl rfl rfl rfl rfl h1 h2 h3 h4 h5 (fun _ _ => rfl) (Nat.le_of_ble_eq_true rfl) (Nat.le_of_ble_eq_true rfl) d_P_carryOut_33 (fun H locs hP hD hS => ?_)
    have hP : va_P D cls_ (wE a cI cZ (sC g 0 (va_cpy (g.1 6) (g.1 0) (x1 * 8).toNatClampNeg (g.1 2 x1.toNatClampNeg).toNatClampNeg (g.1 3 x1.toNatClampNeg).toNatClampNeg))) H := pC_E_0 (g := g) (f := va_cpy (g.1 6) (g.1 0) (x1 * 8).toNatClampNeg (g.1 2 x1.toNatClampNeg).toNatClampNeg (g.1 3 x1.toNatClampNeg).toNatClampNeg) hP
    have hD : va_D A (wE a cI cZ (sC g 0 (va_cpy (g.1 6) (g.1 0) (x1 * 8).toNatClampNeg (g.1 2 x1.toNatClampNeg).toNatClampNeg (g.1 3 x1.toNatClampNeg).toNatClampNeg))) := dC_E_0 (g := g) (f := va_cpy (g.1 6) (g.1 0) (x1 * 8).toNatClampNeg (g.1 2 x1.toNatClampNeg).toNatClampNeg (g.1 3 x1.toNatClampNeg).toNatClampNeg) hD
    generalize sC g 0 (va_cpy (g.1 6) (g.1 0) (x1 * 8).toNatClampNeg (g.1 2 x1.toNatClampNeg).toNatClampNeg (g.1 3 x1.toNatClampNeg).toNatClampNeg) = g_33 at hw hP hD
    refine lv_goto (tgt := 60) hx hb d_P_carryOut_36 (by decide) ?_
    exact k_60 g_33 x1 _ _ _ hP hD hS (lv_sub hl [1, 2] rfl) hw
