set_option maxHeartbeats 4000000 in
set_option maxRecDepth 100000 in
theorem c_M_read (l : Launch) (D : va_G) (a : Nat → Nat) (cI cZ : ClassId) (sz : Nat) (g : St) (x1 : Int32) (x2 : Int32) (Q : Int32 → St → Prop) (hw : wp_M_read g x1 x2 Q) : MT_i l y_M_read b_M_read 3 rm_M_read (wM a cI cZ) D (ty_ cI cZ) sz g [.ref (a 0), .int x1, .int x2] Q := by
  refine MTi_of (by decide +kernel) (Nat.le_of_ble_eq_true rfl) ?_
  intro p e s m args below meth c A Qt ls hx hb hml hts hown hN hK hP hD hA hl hret
  have hS : va_S A s.heap s.heap [] := va_S.rf
  have hl : lv_has ls 3 [(0, .ref (a 0)), (1, .int x1), (2, .int x2)] := hl
  unfold wp_M_read at hw
  refine lv_aload_n hx hb d_M_read_0 rfl (lv_at hl 0 rfl) ?_
  refine lv_iconst (v := 0) hx hb d_M_read_1 (by decide) ?_
  refine lv_iload_n hx hb d_M_read_2 rfl (lv_at hl 1 rfl) ?_
  refine lv_iload_n hx hb d_M_read_3 rfl (lv_at hl 2 rfl) ?_
  refine lv_iconst (v := 0) hx hb d_M_read_4 (by decide) ?_
  refine aft_i (va_runV (As := [.int 0, .int x1, .int x2, .int 0]) (rest := []) ⟨hx, hb, hml, hown, hts⟩ (c_M_come l D a cI cZ _ g 0 x1 x2 0 _ hw) ⟨(callB_of 4 hts good_M_come rfl rfl rfl (hts _ tb_6) (hts _ tb_431) hd_M_come ⟨Nat.le_of_ble_eq_true rfl, Nat.le_of_ble_eq_true rfl⟩), hts _ tb_433, hts _ ts_28⟩ (preV 0 5 hP hD hK hN rfl rfl) rfl rfl hl.1 rfl (lv_room (Nat.le_of_ble_eq_true rfl)) d_M_read_5 ⟨Nat.zero_le _, Nat.zero_le _⟩) hD hS hA hK (fun r5 u5 H locs hw hP hD hS => ?_)
  exact hret _ _ _ _ _ _ hw hP hD hS d_M_read_8
set_option maxHeartbeats 4000000 in
set_option maxRecDepth 100000 in
theorem c_M_write (l : Launch) (D : va_G) (a : Nat → Nat) (cI cZ : ClassId) (sz : Nat) (g : St) (x1 : Int32) (x2 : Int32) (x3 : Int32) (Q : Int32 → St → Prop) (hw : wp_M_write g x1 x2 x3 Q) : MT_i l y_M_write b_M_write 4 rm_M_write (wM a cI cZ) D (ty_ cI cZ) sz g [.ref (a 0), .int x1, .int x2, .int x3] Q := by
  refine MTi_of (by decide +kernel) (Nat.le_of_ble_eq_true rfl) ?_
  intro p e s m args below meth c A Qt ls hx hb hml hts hown hN hK hP hD hA hl hret
  have hS : va_S A s.heap s.heap [] := va_S.rf
  have hl : lv_has ls 4 [(0, .ref (a 0)), (1, .int x1), (2, .int x2), (3, .int x3)] := hl
  unfold wp_M_write at hw
  refine lv_aload_n hx hb d_M_write_0 rfl (lv_at hl 0 rfl) ?_
  refine lv_iconst (v := 1) hx hb d_M_write_1 (by decide) ?_
  refine lv_iload_n hx hb d_M_write_2 rfl (lv_at hl 1 rfl) ?_
  refine lv_iload_n hx hb d_M_write_3 rfl (lv_at hl 2 rfl) ?_
  refine lv_iload_n hx hb d_M_write_4 rfl (lv_at hl 3 rfl) ?_
  refine aft_i (va_runV (As := [.int 1, .int x1, .int x2, .int x3]) (rest := []) ⟨hx, hb, hml, hown, hts⟩ (c_M_come l D a cI cZ _ g 1 x1 x2 x3 _ hw) ⟨(callB_of 4 hts good_M_come rfl rfl rfl (hts _ tb_6) (hts _ tb_431) hd_M_come ⟨Nat.le_of_ble_eq_true rfl, Nat.le_of_ble_eq_true rfl⟩), hts _ tb_433, hts _ ts_28⟩ (preV 0 5 hP hD hK hN rfl rfl) rfl rfl hl.1 rfl (lv_room (Nat.le_of_ble_eq_true rfl)) d_M_write_5 ⟨Nat.zero_le _, Nat.zero_le _⟩) hD hS hA hK (fun r5 u5 H locs hw hP hD hS => ?_)
  exact hret _ _ _ _ _ _ hw hP hD hS d_M_write_8
set_option maxHeartbeats 4000000 in
set_option maxRecDepth 100000 in
theorem c_M_barrier (l : Launch) (D : va_G) (a : Nat → Nat) (cI cZ : ClassId) (sz : Nat) (g : St) (Q : Int32 → St → Prop) (hw : wp_M_barrier g Q) : MT_i l y_M_barrier b_M_barrier 1 rm_M_barrier (wM a cI cZ) D (ty_ cI cZ) sz g [.ref (a 0)] Q := by
  refine MTi_of (by decide +kernel) (Nat.le_of_ble_eq_true rfl) ?_
  intro p e s m args below meth c A Qt ls hx hb hml hts hown hN hK hP hD hA hl hret
  have hS : va_S A s.heap s.heap [] := va_S.rf
  have hl : lv_has ls 1 [(0, .ref (a 0))] := hl
  unfold wp_M_barrier at hw
  refine lv_aload_n hx hb d_M_barrier_0 rfl (lv_at hl 0 rfl) ?_
  refine lv_aload_n hx hb d_M_barrier_1 rfl (lv_at hl 0 rfl) ?_
  refine va_get (D := D) (ci := 5) (C := R_M) (T := F_M) (N := 19) hx hb hts in_M hown hK hP 0 rfl rfl 11 (by decide) (hts _ tb_380) (fun _ h9 => h9) rfl d_M_barrier_2 ?_
  refine lv_iconst (v := 1) hx hb d_M_barrier_5 (by decide) ?_
  refine lv_iadd hx hb d_M_barrier_6 ?_
  refine va_put (v := .int ((g.2.1 1) + 1)) (ty := .int) (D := D) (ci := 5) (C := R_M) (T := F_M) (N := 19) hx hb hts in_M t_M t_M_ok n_M hown hK hP hD hS 0 rfl rfl 11 (by decide) (hts _ tb_380) (fun _ h9 => h9) rfl (by decide +kernel) rfl rfl (Nat.le_of_ble_eq_true rfl) d_M_barrier_7 (fun H locs hP hD hS => ?_)
  have hP : va_P D cls_ (wM a cI cZ (sI g 1 ((g.2.1 1) + 1))) H := pI_M_1 (g := g) (v := (g.2.1 1) + 1) hP
  have hD : va_D A (wM a cI cZ (sI g 1 ((g.2.1 1) + 1))) := dI_M_1 (g := g) (v := (g.2.1 1) + 1) hD
  generalize sI g 1 ((g.2.1 1) + 1) = g_7 at hw hP hD
  refine lv_aload_n hx hb d_M_barrier_10 rfl (lv_at hl 0 rfl) ?_
  refine va_get (D := D) (ci := 5) (C := R_M) (T := F_M) (N := 19) hx hb hts in_M hown hK hP 0 rfl rfl 11 (by decide) (hts _ tb_380) (fun _ h9 => h9) rfl d_M_barrier_11 ?_
  exact hret _ _ _ _ _ _ hw hP hD hS d_M_barrier_14
set_option maxHeartbeats 4000000 in
set_option maxRecDepth 100000 in
theorem c_M_expire (l : Launch) (D : va_G) (a : Nat → Nat) (cI cZ : ClassId) (sz : Nat) (g : St) (x1 : Int32) (x2 : Int32) (Q : Int32 → St → Prop) (hw : wp_M_expire g x1 x2 Q) : MT_z l y_M_expire b_M_expire 3 rm_M_expire (wM a cI cZ) D (ty_ cI cZ) sz g [.ref (a 0), .int x1, .int x2] Q := by
  refine MTz_of (by decide +kernel) (Nat.le_of_ble_eq_true rfl) ?_
  intro p e s m args below meth c A Qt ls hx hb hml hts hown hN hK hP hD hA hl hret
  have hS : va_S A s.heap s.heap [] := va_S.rf
  have hl : lv_has ls 3 [(0, .ref (a 0)), (1, .int x1), (2, .int x2)] := hl
  unfold wp_M_expire at hw
  refine lv_aload_n hx hb d_M_expire_0 rfl (lv_at hl 0 rfl) ?_
  refine lv_iconst (v := 0) hx hb d_M_expire_1 (by decide) ?_
  refine aft_i (va_runV (As := [.int 0]) (rest := []) ⟨hx, hb, hml, hown, hts⟩ (c_M_waiting l D a cI cZ _ g 0 _ hw) ⟨(callB_of 1 hts good_M_waiting rfl rfl rfl (hts _ tb_6) (hts _ tb_435) hd_M_waiting ⟨Nat.le_of_ble_eq_true rfl, Nat.le_of_ble_eq_true rfl⟩), hts _ tb_436, hts _ tb_437⟩ (preV 0 5 hP hD hK hN rfl rfl) rfl rfl hl.1 rfl (lv_room (Nat.le_of_ble_eq_true rfl)) d_M_expire_2 ⟨Nat.zero_le _, Nat.zero_le _⟩) hD hS hA hK (fun r2 u2 H locs hw hP hD hS => ?_)
  refine lv_aload_n hx hb d_M_expire_5 rfl (lv_at hl 0 rfl) ?_
  refine lv_iconst (v := 1) hx hb d_M_expire_6 (by decide) ?_
  refine aft_i (va_runV (As := [.int 1]) (rest := [.int r2]) ⟨hx, hb, hml, hown, hts⟩ (c_M_waiting l D a cI cZ _ u2 1 _ hw) ⟨(callB_of 1 hts good_M_waiting rfl rfl rfl (hts _ tb_6) (hts _ tb_435) hd_M_waiting ⟨Nat.le_of_ble_eq_true rfl, Nat.le_of_ble_eq_true rfl⟩), hts _ tb_436, hts _ tb_437⟩ (preV 0 5 hP hD hK hN rfl rfl) rfl rfl hl.1 rfl (lv_room (Nat.le_of_ble_eq_true rfl)) d_M_expire_7 ⟨Nat.zero_le _, Nat.zero_le _⟩) hD hS hA hK (fun r7 u7 H locs hw hP hD hS => ?_)
  refine lv_iadd hx hb d_M_expire_10 ?_
  refine lv_if_gt (tgt := 36) hx hb d_M_expire_11 (by decide) (fun hc => ?_) (fun hc => ?_)
  · replace hw := hw.1 hc
    refine lv_iconst (v := 0) hx hb d_M_expire_36 (by decide) ?_
    exact hret _ _ _ _ _ _ rfl hw hP hD hS d_M_expire_37
  · replace hw := hw.2 hc
    refine lv_iload_n hx hb d_M_expire_14 rfl (lv_at hl 1 rfl) ?_
    refine lv_if_lt (tgt := 36) hx hb d_M_expire_15 (by decide) (fun hc => ?_) (fun hc => ?_)
    · replace hw := hw.1 hc
      refine lv_iconst (v := 0) hx hb d_M_expire_36 (by decide) ?_
      exact hret _ _ _ _ _ _ rfl hw hP hD hS d_M_expire_37
    · replace hw := hw.2 hc
      refine lv_iload_n hx hb d_M_expire_18 rfl (lv_at hl 1 rfl) ?_
      refine lv_sipush (v := 10000) hx hb d_M_expire_19 (by decide) ?_
      refine lv_icmp_gt (tgt := 36) hx hb d_M_expire_22 (by decide) (fun hc => ?_) (fun hc => ?_)
      · replace hw := hw.1 hc
        refine lv_iconst (v := 0) hx hb d_M_expire_36 (by decide) ?_
        exact hret _ _ _ _ _ _ rfl hw hP hD hS d_M_expire_37
      · replace hw := hw.2 hc
        refine lv_iload_n hx hb d_M_expire_25 rfl (lv_at hl 2 rfl) ?_
        refine lv_if_lt (tgt := 36) hx hb d_M_expire_26 (by decide) (fun hc => ?_) (fun hc => ?_)
        · replace hw := hw.1 hc
          refine lv_iconst (v := 0) hx hb d_M_expire_36 (by decide) ?_
          exact hret _ _ _ _ _ _ rfl hw hP hD hS d_M_expire_37
        · replace hw := hw.2 hc
          refine lv_iload_n hx hb d_M_expire_29 rfl (lv_at hl 2 rfl) ?_
          refine lv_sipush (v := 10000) hx hb d_M_expire_30 (by decide) ?_
          refine lv_icmp_le (tgt := 38) hx hb d_M_expire_33 (by decide) (fun hc => ?_) (fun hc => ?_)
          · replace hw := hw.1 hc
            refine lv_aload_n hx hb d_M_expire_38 rfl (lv_at hl 0 rfl) ?_
            refine va_get (D := D) (ci := 5) (C := R_M) (T := F_M) (N := 19) hx hb hts in_M hown hK hP 0 rfl rfl 13 (by decide) (hts _ tb_382) (fun _ h9 => h9) rfl d_M_expire_39 ?_
            refine lv_iconst (v := 0) hx hb d_M_expire_42 (by decide) ?_
            refine lv_iload_n hx hb d_M_expire_43 rfl (lv_at hl 1 rfl) ?_
            refine va_iast hx hb hK hP hD hS 11 0 rfl rfl hw.1 d_M_expire_44 (fun H locs hP hD hS => ?_)
            replace hw := hw.2
            have hP : va_P D cls_ (wM a cI cZ (sA u7 10 (0 : Int32).toNatClampNeg x1)) H := pA_M_10 (g := u7) (j := (0 : Int32).toNatClampNeg) (x := x1) hP
            have hD : va_D A (wM a cI cZ (sA u7 10 (0 : Int32).toNatClampNeg x1)) := dA_M_10 (g := u7) (j := (0 : Int32).toNatClampNeg) (x := x1) hD
            generalize sA u7 10 (0 : Int32).toNatClampNeg x1 = g_44 at hw hP hD
            refine lv_aload_n hx hb d_M_expire_45 rfl (lv_at hl 0 rfl) ?_
            refine va_get (D := D) (ci := 5) (C := R_M) (T := F_M) (N := 19) hx hb hts in_M hown hK hP 0 rfl rfl 13 (by decide) (hts _ tb_382) (fun _ h9 => h9) rfl d_M_expire_46 ?_
            refine lv_iconst (v := 1) hx hb d_M_expire_49 (by decide) ?_
            refine lv_iload_n hx hb d_M_expire_50 rfl (lv_at hl 2 rfl) ?_
            refine va_iast hx hb hK hP hD hS 11 0 rfl rfl hw.1 d_M_expire_51 (fun H locs hP hD hS => ?_)
            replace hw := hw.2
            have hP : va_P D cls_ (wM a cI cZ (sA g_44 10 (1 : Int32).toNatClampNeg x2)) H := pA_M_10 (g := g_44) (j := (1 : Int32).toNatClampNeg) (x := x2) hP
            have hD : va_D A (wM a cI cZ (sA g_44 10 (1 : Int32).toNatClampNeg x2)) := dA_M_10 (g := g_44) (j := (1 : Int32).toNatClampNeg) (x := x2) hD
            generalize sA g_44 10 (1 : Int32).toNatClampNeg x2 = g_51 at hw hP hD
            refine lv_iconst (v := 1) hx hb d_M_expire_52 (by decide) ?_
            exact hret _ _ _ _ _ _ rfl hw hP hD hS d_M_expire_53
          · replace hw := hw.2 hc
            refine lv_iconst (v := 0) hx hb d_M_expire_36 (by decide) ?_
            exact hret _ _ _ _ _ _ rfl hw hP hD hS d_M_expire_37
set_option maxHeartbeats 4000000 in
set_option maxRecDepth 100000 in
theorem c_M_tick (l : Launch) (D : va_G) (a : Nat → Nat) (cI cZ : ClassId) (sz : Nat) (g : St) (x1 : Int32) (Q : Int32 → St → Prop) (hw : wp_M_tick g x1 Q) : MT_z l y_M_tick b_M_tick 2 rm_M_tick (wM a cI cZ) D (ty_ cI cZ) sz g [.ref (a 0), .int x1] Q := by
  refine MTz_of (by decide +kernel) (Nat.le_of_ble_eq_true rfl) ?_
  intro p e s m args below meth c A Qt ls hx hb hml hts hown hN hK hP hD hA hl hret
  have hS : va_S A s.heap s.heap [] := va_S.rf
  have hl : lv_has ls 2 [(0, .ref (a 0)), (1, .int x1)] := hl
  unfold wp_M_tick at hw
  refine lv_iload_n hx hb d_M_tick_0 rfl (lv_at hl 1 rfl) ?_
  refine lv_if_lt (tgt := 10) hx hb d_M_tick_1 (by decide) (fun hc => ?_) (fun hc => ?_)
  · replace hw := hw.1 hc
    refine lv_iconst (v := 0) hx hb d_M_tick_10 (by decide) ?_
    exact hret _ _ _ _ _ _ rfl hw hP hD hS d_M_tick_11
  · replace hw := hw.2 hc
    refine lv_iload_n hx hb d_M_tick_4 rfl (lv_at hl 1 rfl) ?_
    refine lv_ldc hx hb hown (hts _ tb_479) d_M_tick_5 ?_
    refine lv_icmp_le (tgt := 12) hx hb d_M_tick_7 (by decide) (fun hc => ?_) (fun hc => ?_)
    · replace hw := hw.1 hc
      refine lv_aload_n hx hb d_M_tick_12 rfl (lv_at hl 0 rfl) ?_
      refine lv_aload_n hx hb d_M_tick_13 rfl (lv_at hl 0 rfl) ?_
      refine va_get (D := D) (ci := 5) (C := R_M) (T := F_M) (N := 19) hx hb hts in_M hown hK hP 0 rfl rfl 12 (by decide) (hts _ tb_381) (fun _ h9 => h9) rfl d_M_tick_14 ?_
      refine lv_iload_n hx hb d_M_tick_17 rfl (lv_at hl 1 rfl) ?_
      refine lv_iadd hx hb d_M_tick_18 ?_
      refine va_put (v := .int ((g.2.1 2) + x1)) (ty := .int) (D := D) (ci := 5) (C := R_M) (T := F_M) (N := 19) hx hb hts in_M t_M t_M_ok n_M hown hK hP hD hS 0 rfl rfl 12 (by decide) (hts _ tb_381) (fun _ h9 => h9) rfl (by decide +kernel) rfl rfl (Nat.le_of_ble_eq_true rfl) d_M_tick_19 (fun H locs hP hD hS => ?_)
      have hP : va_P D cls_ (wM a cI cZ (sI g 2 ((g.2.1 2) + x1))) H := pI_M_2 (g := g) (v := (g.2.1 2) + x1) hP
      have hD : va_D A (wM a cI cZ (sI g 2 ((g.2.1 2) + x1))) := dI_M_2 (g := g) (v := (g.2.1 2) + x1) hD
      generalize sI g 2 ((g.2.1 2) + x1) = g_19 at hw hP hD
      refine lv_iconst (v := 1) hx hb d_M_tick_22 (by decide) ?_
      exact hret _ _ _ _ _ _ rfl hw hP hD hS d_M_tick_23
    · replace hw := hw.2 hc
      refine lv_iconst (v := 0) hx hb d_M_tick_10 (by decide) ?_
      exact hret _ _ _ _ _ _ rfl hw hP hD hS d_M_tick_11
set_option maxHeartbeats 4000000 in
set_option maxRecDepth 100000 in
theorem c_M_sweep (l : Launch) (D : va_G) (a : Nat → Nat) (cI cZ : ClassId) (sz : Nat) (g : St) (x1 : Int32) (x2 : Int32) (Q : Int32 → St → Prop) (hw : wp_M_sweep g x1 x2 Q) : MT_i l y_M_sweep b_M_sweep 5 rm_M_sweep (wM a cI cZ) D (ty_ cI cZ) sz g [.ref (a 0), .int x1, .int x2] Q := by
  refine MTi_of (by decide +kernel) (Nat.le_of_ble_eq_true rfl) ?_
  intro p e s m args below meth c A Qt ls hx hb hml hts hown hN hK hP hD hA hl hret
  have hS : va_S A s.heap s.heap [] := va_S.rf
  have hl : lv_has ls 5 [(0, .ref (a 0)), (1, .int x1), (2, .int x2)] := hl
  have k_5 : ∀ (n : Nat) (g : St) (x1 : Int32) (x2 : Int32) (x3 : Int32) (x4 : Int32) (H : Heap) (locs : List Loc) (ls : Array Slot), va_P D cls_ (wM a cI cZ g) H → va_D A (wM a cI cZ g) → va_S A s.heap H locs → lv_has ls 5 [(0, .ref (a 0)), (1, .int x1), (2, .int x2), (3, .int x3), (4, .int x4)] → wl_M_sweep_5 Q n g x1 x2 x3 x4 → W p l e rm_M_sweep s m args below meth c H locs 0 0 Qt (F0 m 5 ls []) := by
    intro n
    induction n with
    | zero => intro g x1 x2 x3 x4 H locs ls hP hD hS hl hw; exact False.elim hw
    | succ n_5 ih_5 =>
      intro g x1 x2 x3 x4 H locs ls hP hD hS hl hw
      unfold wl_M_sweep_5 at hw
      refine lv_iload hx hb d_M_sweep_5 (lv_at hl 4 rfl) ?_
      refine lv_aload_n hx hb d_M_sweep_7 rfl (lv_at hl 0 rfl) ?_
      refine va_get (D := D) (ci := 5) (C := R_M) (T := F_M) (N := 19) hx hb hts in_M hown hK hP 0 rfl rfl 1 (by decide) (hts _ tb_370) (fun _ h9 => h9) rfl d_M_sweep_8 ?_
      refine lv_icmp_ge (tgt := 71) hx hb d_M_sweep_11 (by decide) (fun hc => ?_) (fun hc => ?_)
      · replace hw := hw.1 hc
        refine lv_iload_n hx hb d_M_sweep_71 rfl (lv_at hl 3 rfl) ?_
        exact hret _ _ _ _ _ _ hw hP hD hS d_M_sweep_72
      · replace hw := hw.2 hc
        refine lv_aload_n hx hb d_M_sweep_14 rfl (lv_at hl 0 rfl) ?_
        refine lv_iload hx hb d_M_sweep_15 (lv_at hl 4 rfl) ?_
        refine aft_i (va_runV (As := [.int x4]) (rest := []) ⟨hx, hb, hml, hown, hts⟩ (c_M_isReady l D a cI cZ _ g x4 _ hw) ⟨(callB_of 1 hts good_M_isReady rfl rfl rfl (hts _ tb_6) (hts _ tb_488) hd_M_isReady ⟨Nat.le_of_ble_eq_true rfl, Nat.le_of_ble_eq_true rfl⟩), hts _ tb_490, hts _ ts_36⟩ (preV 0 5 hP hD hK hN rfl rfl) rfl rfl hl.1 rfl (lv_room (Nat.le_of_ble_eq_true rfl)) d_M_sweep_17 ⟨Nat.zero_le _, Nat.zero_le _⟩) hD hS hA hK (fun r17 u17 H locs hw hP hD hS => ?_)
        refine lv_if_eq (tgt := 65) hx hb d_M_sweep_20 (by decide) (fun hc => ?_) (fun hc => ?_)
        · replace hw := hw.1 hc
          refine lv_iinc (k := 4) (v := x4 + 1) (lv' := [(4, .int (x4 + 1)), (0, .ref (a 0)), (1, .int x1), (2, .int x2), (3, .int x3)]) hx hb d_M_sweep_65 hl rfl rfl (by decide) rfl (fun ls hl => ?_)
          refine lv_goto (tgt := 5) hx hb d_M_sweep_68 (by decide) ?_
          exact ih_5 u17 x1 x2 x3 (x4 + 1) _ _ _ hP hD hS (lv_sub hl [1, 2, 3, 4, 0] rfl) hw
        · replace hw := hw.2 hc
          refine lv_aload_n hx hb d_M_sweep_23 rfl (lv_at hl 0 rfl) ?_
          refine va_get (D := D) (ci := 5) (C := R_M) (T := F_M) (N := 19) hx hb hts in_M hown hK hP 0 rfl rfl 2 (by decide) (hts _ tb_371) (fun _ h9 => h9) rfl d_M_sweep_24 ?_
          refine lv_iload hx hb d_M_sweep_27 (lv_at hl 4 rfl) ?_
          refine va_iald hx hb hK hP 2 0 rfl rfl hw.1 d_M_sweep_29 ?_
          replace hw := hw.2
          refine lv_iload_n hx hb d_M_sweep_30 rfl (lv_at hl 1 rfl) ?_
          refine lv_icmp_ne (tgt := 65) hx hb d_M_sweep_31 (by decide) (fun hc => ?_) (fun hc => ?_)
          · replace hw := hw.1 hc
            refine lv_iinc (k := 4) (v := x4 + 1) (lv' := [(4, .int (x4 + 1)), (0, .ref (a 0)), (1, .int x1), (2, .int x2), (3, .int x3)]) hx hb d_M_sweep_65 hl rfl rfl (by decide) rfl (fun ls hl => ?_)
            refine lv_goto (tgt := 5) hx hb d_M_sweep_68 (by decide) ?_
            exact ih_5 u17 x1 x2 x3 (x4 + 1) _ _ _ hP hD hS (lv_sub hl [1, 2, 3, 4, 0] rfl) hw
          · replace hw := hw.2 hc
            refine lv_aload_n hx hb d_M_sweep_34 rfl (lv_at hl 0 rfl) ?_
            refine lv_iload hx hb d_M_sweep_35 (lv_at hl 4 rfl) ?_
            refine aft_i (va_runV (As := [.int x4]) (rest := []) ⟨hx, hb, hml, hown, hts⟩ (c_M_start l D a cI cZ _ u17 x4 _ hw) ⟨(callB_of 1 hts good_M_start rfl rfl rfl (hts _ tb_6) (hts _ tb_459) hd_M_start ⟨Nat.le_of_ble_eq_true rfl, Nat.le_of_ble_eq_true rfl⟩), hts _ tb_461, hts _ ts_34⟩ (preV 0 5 hP hD hK hN rfl rfl) rfl rfl hl.1 rfl (lv_room (Nat.le_of_ble_eq_true rfl)) d_M_sweep_37 ⟨Nat.zero_le _, Nat.zero_le _⟩) hD hS hA hK (fun r37 u37 H locs hw hP hD hS => ?_)
            refine lv_iload_n hx hb d_M_sweep_40 rfl (lv_at hl 2 rfl) ?_
            refine lv_icmp_lt (tgt := 65) hx hb d_M_sweep_41 (by decide) (fun hc => ?_) (fun hc => ?_)
            · replace hw := hw.1 hc
              refine lv_iinc (k := 4) (v := x4 + 1) (lv' := [(4, .int (x4 + 1)), (0, .ref (a 0)), (1, .int x1), (2, .int x2), (3, .int x3)]) hx hb d_M_sweep_65 hl rfl rfl (by decide) rfl (fun ls hl => ?_)
              refine lv_goto (tgt := 5) hx hb d_M_sweep_68 (by decide) ?_
              exact ih_5 u37 x1 x2 x3 (x4 + 1) _ _ _ hP hD hS (lv_sub hl [1, 2, 3, 4, 0] rfl) hw
            · replace hw := hw.2 hc
              refine lv_iload_n hx hb d_M_sweep_44 rfl (lv_at hl 3 rfl) ?_
              refine lv_if_lt (tgt := 62) hx hb d_M_sweep_45 (by decide) (fun hc => ?_) (fun hc => ?_)
              · replace hw := hw.1 hc
                refine lv_iload hx hb d_M_sweep_62 (lv_at hl 4 rfl) ?_
                refine lv_istore_n (lv' := [(3, .int x4), (0, .ref (a 0)), (1, .int x1), (2, .int x2), (4, .int x4)]) hx hb d_M_sweep_64 rfl hl (by decide) rfl (fun ls hl => ?_)
                refine lv_iinc (k := 4) (v := x4 + 1) (lv' := [(4, .int (x4 + 1)), (3, .int x4), (0, .ref (a 0)), (1, .int x1), (2, .int x2)]) hx hb d_M_sweep_65 hl rfl rfl (by decide) rfl (fun ls hl => ?_)
                refine lv_goto (tgt := 5) hx hb d_M_sweep_68 (by decide) ?_
                exact ih_5 u37 x1 x2 x4 (x4 + 1) _ _ _ hP hD hS (lv_sub hl [2, 3, 4, 1, 0] rfl) hw
              · replace hw := hw.2 hc
                refine lv_aload_n hx hb d_M_sweep_48 rfl (lv_at hl 0 rfl) ?_
                refine lv_iload hx hb d_M_sweep_49 (lv_at hl 4 rfl) ?_
                refine aft_i (va_runV (As := [.int x4]) (rest := []) ⟨hx, hb, hml, hown, hts⟩ (c_M_start l D a cI cZ _ u37 x4 _ hw) ⟨(callB_of 1 hts good_M_start rfl rfl rfl (hts _ tb_6) (hts _ tb_459) hd_M_start ⟨Nat.le_of_ble_eq_true rfl, Nat.le_of_ble_eq_true rfl⟩), hts _ tb_461, hts _ ts_34⟩ (preV 0 5 hP hD hK hN rfl rfl) rfl rfl hl.1 rfl (lv_room (Nat.le_of_ble_eq_true rfl)) d_M_sweep_51 ⟨Nat.zero_le _, Nat.zero_le _⟩) hD hS hA hK (fun r51 u51 H locs hw hP hD hS => ?_)
                refine lv_aload_n hx hb d_M_sweep_54 rfl (lv_at hl 0 rfl) ?_
                refine lv_iload_n hx hb d_M_sweep_55 rfl (lv_at hl 3 rfl) ?_
                refine aft_i (va_runV (As := [.int x3]) (rest := [.int r51]) ⟨hx, hb, hml, hown, hts⟩ (c_M_start l D a cI cZ _ u51 x3 _ hw) ⟨(callB_of 1 hts good_M_start rfl rfl rfl (hts _ tb_6) (hts _ tb_459) hd_M_start ⟨Nat.le_of_ble_eq_true rfl, Nat.le_of_ble_eq_true rfl⟩), hts _ tb_461, hts _ ts_34⟩ (preV 0 5 hP hD hK hN rfl rfl) rfl rfl hl.1 rfl (lv_room (Nat.le_of_ble_eq_true rfl)) d_M_sweep_56 ⟨Nat.zero_le _, Nat.zero_le _⟩) hD hS hA hK (fun r56 u56 H locs hw hP hD hS => ?_)
                refine lv_icmp_ge (tgt := 65) hx hb d_M_sweep_59 (by decide) (fun hc => ?_) (fun hc => ?_)
                · replace hw := hw.1 hc
                  refine lv_iinc (k := 4) (v := x4 + 1) (lv' := [(4, .int (x4 + 1)), (0, .ref (a 0)), (1, .int x1), (2, .int x2), (3, .int x3)]) hx hb d_M_sweep_65 hl rfl rfl (by decide) rfl (fun ls hl => ?_)
                  refine lv_goto (tgt := 5) hx hb d_M_sweep_68 (by decide) ?_
                  exact ih_5 u56 x1 x2 x3 (x4 + 1) _ _ _ hP hD hS (lv_sub hl [1, 2, 3, 4, 0] rfl) hw
                · replace hw := hw.2 hc
                  refine lv_iload hx hb d_M_sweep_62 (lv_at hl 4 rfl) ?_
                  refine lv_istore_n (lv' := [(3, .int x4), (0, .ref (a 0)), (1, .int x1), (2, .int x2), (4, .int x4)]) hx hb d_M_sweep_64 rfl hl (by decide) rfl (fun ls hl => ?_)
                  refine lv_iinc (k := 4) (v := x4 + 1) (lv' := [(4, .int (x4 + 1)), (3, .int x4), (0, .ref (a 0)), (1, .int x1), (2, .int x2)]) hx hb d_M_sweep_65 hl rfl rfl (by decide) rfl (fun ls hl => ?_)
                  refine lv_goto (tgt := 5) hx hb d_M_sweep_68 (by decide) ?_
                  exact ih_5 u56 x1 x2 x4 (x4 + 1) _ _ _ hP hD hS (lv_sub hl [2, 3, 4, 1, 0] rfl) hw
  unfold wp_M_sweep at hw
  refine lv_iconst (v := (-1)) hx hb d_M_sweep_0 (by decide) ?_
  refine lv_istore_n (lv' := [(3, .int (-1)), (0, .ref (a 0)), (1, .int x1), (2, .int x2)]) hx hb d_M_sweep_1 rfl hl (by decide) rfl (fun ls hl => ?_)
  refine lv_iconst (v := 0) hx hb d_M_sweep_2 (by decide) ?_
  refine lv_istore (lv' := [(4, .int 0), (3, .int (-1)), (0, .ref (a 0)), (1, .int x1), (2, .int x2)]) hx hb d_M_sweep_3 hl (by decide) rfl (fun ls hl => ?_)
  obtain ⟨n, hw⟩ := hw
  exact k_5 n g x1 x2 (-1) 0 _ _ _ hP hD hS (lv_sub hl [2, 3, 4, 1, 0] rfl) hw
set_option maxHeartbeats 4000000 in
set_option maxRecDepth 100000 in
theorem c_M_late (l : Launch) (D : va_G) (a : Nat → Nat) (cI cZ : ClassId) (sz : Nat) (g : St) (x1 : Int32) (Q : Int32 → St → Prop) (hw : wp_M_late g x1 Q) : MT_i l y_M_late b_M_late 4 rm_M_late (wM a cI cZ) D (ty_ cI cZ) sz g [.ref (a 0), .int x1] Q := by
  refine MTi_of (by decide +kernel) (Nat.le_of_ble_eq_true rfl) ?_
  intro p e s m args below meth c A Qt ls hx hb hml hts hown hN hK hP hD hA hl hret
  have hS : va_S A s.heap s.heap [] := va_S.rf
  have hl : lv_has ls 4 [(0, .ref (a 0)), (1, .int x1)] := hl
  have k_4 : ∀ (n : Nat) (g : St) (x1 : Int32) (x2 : Int32) (x3 : Int32) (H : Heap) (locs : List Loc) (ls : Array Slot), va_P D cls_ (wM a cI cZ g) H → va_D A (wM a cI cZ g) → va_S A s.heap H locs → lv_has ls 4 [(0, .ref (a 0)), (1, .int x1), (2, .int x2), (3, .int x3)] → wl_M_late_4 Q n g x1 x2 x3 → W p l e rm_M_late s m args below meth c H locs 0 0 Qt (F0 m 4 ls []) := by
    intro n
    induction n with
    | zero => intro g x1 x2 x3 H locs ls hP hD hS hl hw; exact False.elim hw
    | succ n_4 ih_4 =>
      intro g x1 x2 x3 H locs ls hP hD hS hl hw
      unfold wl_M_late_4 at hw
      refine lv_iload_n hx hb d_M_late_4 rfl (lv_at hl 3 rfl) ?_
      refine lv_aload_n hx hb d_M_late_5 rfl (lv_at hl 0 rfl) ?_
      refine va_get (D := D) (ci := 5) (C := R_M) (T := F_M) (N := 19) hx hb hts in_M hown hK hP 0 rfl rfl 1 (by decide) (hts _ tb_370) (fun _ h9 => h9) rfl d_M_late_6 ?_
      refine lv_icmp_ge (tgt := 70) hx hb d_M_late_9 (by decide) (fun hc => ?_) (fun hc => ?_)
      · replace hw := hw.1 hc
        refine lv_iload_n hx hb d_M_late_70 rfl (lv_at hl 2 rfl) ?_
        exact hret _ _ _ _ _ _ hw hP hD hS d_M_late_71
      · replace hw := hw.2 hc
        refine lv_aload_n hx hb d_M_late_12 rfl (lv_at hl 0 rfl) ?_
        refine lv_iload_n hx hb d_M_late_13 rfl (lv_at hl 3 rfl) ?_
        refine aft_i (va_runV (As := [.int x3]) (rest := []) ⟨hx, hb, hml, hown, hts⟩ (c_M_isReady l D a cI cZ _ g x3 _ hw) ⟨(callB_of 1 hts good_M_isReady rfl rfl rfl (hts _ tb_6) (hts _ tb_488) hd_M_isReady ⟨Nat.le_of_ble_eq_true rfl, Nat.le_of_ble_eq_true rfl⟩), hts _ tb_490, hts _ ts_36⟩ (preV 0 5 hP hD hK hN rfl rfl) rfl rfl hl.1 rfl (lv_room (Nat.le_of_ble_eq_true rfl)) d_M_late_14 ⟨Nat.zero_le _, Nat.zero_le _⟩) hD hS hA hK (fun r14 u14 H locs hw hP hD hS => ?_)
        refine lv_if_eq (tgt := 64) hx hb d_M_late_17 (by decide) (fun hc => ?_) (fun hc => ?_)
        · replace hw := hw.1 hc
          refine lv_iinc (k := 3) (v := x3 + 1) (lv' := [(3, .int (x3 + 1)), (0, .ref (a 0)), (1, .int x1), (2, .int x2)]) hx hb d_M_late_64 hl rfl rfl (by decide) rfl (fun ls hl => ?_)
          refine lv_goto (tgt := 4) hx hb d_M_late_67 (by decide) ?_
          exact ih_4 u14 x1 x2 (x3 + 1) _ _ _ hP hD hS (lv_sub hl [1, 2, 3, 0] rfl) hw
        · replace hw := hw.2 hc
          refine lv_aload_n hx hb d_M_late_20 rfl (lv_at hl 0 rfl) ?_
          refine va_get (D := D) (ci := 5) (C := R_M) (T := F_M) (N := 19) hx hb hts in_M hown hK hP 0 rfl rfl 2 (by decide) (hts _ tb_371) (fun _ h9 => h9) rfl d_M_late_21 ?_
          refine lv_iload_n hx hb d_M_late_24 rfl (lv_at hl 3 rfl) ?_
          refine va_iald hx hb hK hP 2 0 rfl rfl hw.1 d_M_late_25 ?_
          replace hw := hw.2
          refine lv_iload_n hx hb d_M_late_26 rfl (lv_at hl 1 rfl) ?_
          refine lv_icmp_ne (tgt := 64) hx hb d_M_late_27 (by decide) (fun hc => ?_) (fun hc => ?_)
          · replace hw := hw.1 hc
            refine lv_iinc (k := 3) (v := x3 + 1) (lv' := [(3, .int (x3 + 1)), (0, .ref (a 0)), (1, .int x1), (2, .int x2)]) hx hb d_M_late_64 hl rfl rfl (by decide) rfl (fun ls hl => ?_)
            refine lv_goto (tgt := 4) hx hb d_M_late_67 (by decide) ?_
            exact ih_4 u14 x1 x2 (x3 + 1) _ _ _ hP hD hS (lv_sub hl [1, 2, 3, 0] rfl) hw
          · replace hw := hw.2 hc
            refine lv_aload_n hx hb d_M_late_30 rfl (lv_at hl 0 rfl) ?_
            refine va_get (D := D) (ci := 5) (C := R_M) (T := F_M) (N := 19) hx hb hts in_M hown hK hP 0 rfl rfl 9 (by decide) (hts _ tb_378) (fun _ h9 => h9) rfl d_M_late_31 ?_
            refine lv_iload_n hx hb d_M_late_34 rfl (lv_at hl 3 rfl) ?_
            refine va_iald hx hb hK hP 9 0 rfl rfl hw.1 d_M_late_35 ?_
            replace hw := hw.2
            refine lv_aload_n hx hb d_M_late_36 rfl (lv_at hl 0 rfl) ?_
            refine va_get (D := D) (ci := 5) (C := R_M) (T := F_M) (N := 19) hx hb hts in_M hown hK hP 0 rfl rfl 12 (by decide) (hts _ tb_381) (fun _ h9 => h9) rfl d_M_late_37 ?_
            refine lv_icmp_gt (tgt := 64) hx hb d_M_late_40 (by decide) (fun hc => ?_) (fun hc => ?_)
            · replace hw := hw.1 hc
              refine lv_iinc (k := 3) (v := x3 + 1) (lv' := [(3, .int (x3 + 1)), (0, .ref (a 0)), (1, .int x1), (2, .int x2)]) hx hb d_M_late_64 hl rfl rfl (by decide) rfl (fun ls hl => ?_)
              refine lv_goto (tgt := 4) hx hb d_M_late_67 (by decide) ?_
              exact ih_4 u14 x1 x2 (x3 + 1) _ _ _ hP hD hS (lv_sub hl [1, 2, 3, 0] rfl) hw
            · replace hw := hw.2 hc
              refine lv_iload_n hx hb d_M_late_43 rfl (lv_at hl 2 rfl) ?_
              refine lv_if_lt (tgt := 62) hx hb d_M_late_44 (by decide) (fun hc => ?_) (fun hc => ?_)
              · replace hw := hw.1 hc
                refine lv_iload_n hx hb d_M_late_62 rfl (lv_at hl 3 rfl) ?_
                refine lv_istore_n (lv' := [(2, .int x3), (0, .ref (a 0)), (1, .int x1), (3, .int x3)]) hx hb d_M_late_63 rfl hl (by decide) rfl (fun ls hl => ?_)
                refine lv_iinc (k := 3) (v := x3 + 1) (lv' := [(3, .int (x3 + 1)), (2, .int x3), (0, .ref (a 0)), (1, .int x1)]) hx hb d_M_late_64 hl rfl rfl (by decide) rfl (fun ls hl => ?_)
                refine lv_goto (tgt := 4) hx hb d_M_late_67 (by decide) ?_
                exact ih_4 u14 x1 x3 (x3 + 1) _ _ _ hP hD hS (lv_sub hl [2, 3, 1, 0] rfl) hw
              · replace hw := hw.2 hc
                refine lv_aload_n hx hb d_M_late_47 rfl (lv_at hl 0 rfl) ?_
                refine va_get (D := D) (ci := 5) (C := R_M) (T := F_M) (N := 19) hx hb hts in_M hown hK hP 0 rfl rfl 9 (by decide) (hts _ tb_378) (fun _ h9 => h9) rfl d_M_late_48 ?_
                refine lv_iload_n hx hb d_M_late_51 rfl (lv_at hl 3 rfl) ?_
                refine va_iald hx hb hK hP 9 0 rfl rfl hw.1 d_M_late_52 ?_
                replace hw := hw.2
                refine lv_aload_n hx hb d_M_late_53 rfl (lv_at hl 0 rfl) ?_
                refine va_get (D := D) (ci := 5) (C := R_M) (T := F_M) (N := 19) hx hb hts in_M hown hK hP 0 rfl rfl 9 (by decide) (hts _ tb_378) (fun _ h9 => h9) rfl d_M_late_54 ?_
                refine lv_iload_n hx hb d_M_late_57 rfl (lv_at hl 2 rfl) ?_
                refine va_iald hx hb hK hP 9 0 rfl rfl hw.1 d_M_late_58 ?_
                replace hw := hw.2
                refine lv_icmp_ge (tgt := 64) hx hb d_M_late_59 (by decide) (fun hc => ?_) (fun hc => ?_)
                · replace hw := hw.1 hc
                  refine lv_iinc (k := 3) (v := x3 + 1) (lv' := [(3, .int (x3 + 1)), (0, .ref (a 0)), (1, .int x1), (2, .int x2)]) hx hb d_M_late_64 hl rfl rfl (by decide) rfl (fun ls hl => ?_)
                  refine lv_goto (tgt := 4) hx hb d_M_late_67 (by decide) ?_
                  exact ih_4 u14 x1 x2 (x3 + 1) _ _ _ hP hD hS (lv_sub hl [1, 2, 3, 0] rfl) hw
                · replace hw := hw.2 hc
                  refine lv_iload_n hx hb d_M_late_62 rfl (lv_at hl 3 rfl) ?_
                  refine lv_istore_n (lv' := [(2, .int x3), (0, .ref (a 0)), (1, .int x1), (3, .int x3)]) hx hb d_M_late_63 rfl hl (by decide) rfl (fun ls hl => ?_)
                  refine lv_iinc (k := 3) (v := x3 + 1) (lv' := [(3, .int (x3 + 1)), (2, .int x3), (0, .ref (a 0)), (1, .int x1)]) hx hb d_M_late_64 hl rfl rfl (by decide) rfl (fun ls hl => ?_)
                  refine lv_goto (tgt := 4) hx hb d_M_late_67 (by decide) ?_
                  exact ih_4 u14 x1 x3 (x3 + 1) _ _ _ hP hD hS (lv_sub hl [2, 3, 1, 0] rfl) hw
  unfold wp_M_late at hw
  refine lv_iconst (v := (-1)) hx hb d_M_late_0 (by decide) ?_
  refine lv_istore_n (lv' := [(2, .int (-1)), (0, .ref (a 0)), (1, .int x1)]) hx hb d_M_late_1 rfl hl (by decide) rfl (fun ls hl => ?_)
  refine lv_iconst (v := 0) hx hb d_M_late_2 (by decide) ?_
  refine lv_istore_n (lv' := [(3, .int 0), (2, .int (-1)), (0, .ref (a 0)), (1, .int x1)]) hx hb d_M_late_3 rfl hl (by decide) rfl (fun ls hl => ?_)
  obtain ⟨n, hw⟩ := hw
  exact k_4 n g x1 (-1) 0 _ _ _ hP hD hS (lv_sub hl [2, 3, 1, 0] rfl) hw
set_option maxHeartbeats 4000000 in
set_option maxRecDepth 100000 in
theorem c_M_ready (l : Launch) (D : va_G) (a : Nat → Nat) (cI cZ : ClassId) (sz : Nat) (g : St) (x1 : Int32) (Q : Int32 → St → Prop) (hw : wp_M_ready g x1 Q) : MT_i l y_M_ready b_M_ready 4 rm_M_ready (wM a cI cZ) D (ty_ cI cZ) sz g [.ref (a 0), .int x1] Q := by
  refine MTi_of (by decide +kernel) (Nat.le_of_ble_eq_true rfl) ?_
  intro p e s m args below meth c A Qt ls hx hb hml hts hown hN hK hP hD hA hl hret
  have hS : va_S A s.heap s.heap [] := va_S.rf
  have hl : lv_has ls 4 [(0, .ref (a 0)), (1, .int x1)] := hl
  have k_4 : ∀ (n : Nat) (g : St) (x1 : Int32) (x2 : Int32) (x3 : Int32) (H : Heap) (locs : List Loc) (ls : Array Slot), va_P D cls_ (wM a cI cZ g) H → va_D A (wM a cI cZ g) → va_S A s.heap H locs → lv_has ls 4 [(0, .ref (a 0)), (1, .int x1), (2, .int x2), (3, .int x3)] → wl_M_ready_4 Q n g x1 x2 x3 → W p l e rm_M_ready s m args below meth c H locs 0 0 Qt (F0 m 4 ls []) := by
    intro n
    induction n with
    | zero => intro g x1 x2 x3 H locs ls hP hD hS hl hw; exact False.elim hw
    | succ n_4 ih_4 =>
      intro g x1 x2 x3 H locs ls hP hD hS hl hw
      unfold wl_M_ready_4 at hw
      refine lv_iload_n hx hb d_M_ready_4 rfl (lv_at hl 3 rfl) ?_
      refine lv_aload_n hx hb d_M_ready_5 rfl (lv_at hl 0 rfl) ?_
      refine va_get (D := D) (ci := 5) (C := R_M) (T := F_M) (N := 19) hx hb hts in_M hown hK hP 0 rfl rfl 1 (by decide) (hts _ tb_370) (fun _ h9 => h9) rfl d_M_ready_6 ?_
      refine lv_icmp_ge (tgt := 44) hx hb d_M_ready_9 (by decide) (fun hc => ?_) (fun hc => ?_)
      · replace hw := hw.1 hc
        refine lv_iload_n hx hb d_M_ready_44 rfl (lv_at hl 1 rfl) ?_
        refine lv_if_lt (tgt := 53) hx hb d_M_ready_45 (by decide) (fun hc => ?_) (fun hc => ?_)
        · replace hw := hw.1 hc
          refine lv_iconst (v := (-1)) hx hb d_M_ready_53 (by decide) ?_
          refine lv_goto (tgt := 58) hx hb d_M_ready_54 (by decide) ?_
          exact hret _ _ _ _ _ _ hw hP hD hS d_M_ready_58
        · replace hw := hw.2 hc
          refine lv_iload_n hx hb d_M_ready_48 rfl (lv_at hl 1 rfl) ?_
          refine lv_iconst (v := 1) hx hb d_M_ready_49 (by decide) ?_
          refine lv_icmp_le (tgt := 57) hx hb d_M_ready_50 (by decide) (fun hc => ?_) (fun hc => ?_)
          · replace hw := hw.1 hc
            refine lv_iload_n hx hb d_M_ready_57 rfl (lv_at hl 2 rfl) ?_
            exact hret _ _ _ _ _ _ hw hP hD hS d_M_ready_58
          · replace hw := hw.2 hc
            refine lv_iconst (v := (-1)) hx hb d_M_ready_53 (by decide) ?_
            refine lv_goto (tgt := 58) hx hb d_M_ready_54 (by decide) ?_
            exact hret _ _ _ _ _ _ hw hP hD hS d_M_ready_58
      · replace hw := hw.2 hc
        refine lv_aload_n hx hb d_M_ready_12 rfl (lv_at hl 0 rfl) ?_
        refine va_get (D := D) (ci := 5) (C := R_M) (T := F_M) (N := 19) hx hb hts in_M hown hK hP 0 rfl rfl 2 (by decide) (hts _ tb_371) (fun _ h9 => h9) rfl d_M_ready_13 ?_
        refine lv_iload_n hx hb d_M_ready_16 rfl (lv_at hl 3 rfl) ?_
        refine va_iald hx hb hK hP 2 0 rfl rfl hw.1 d_M_ready_17 ?_
        replace hw := hw.2
        refine lv_iload_n hx hb d_M_ready_18 rfl (lv_at hl 1 rfl) ?_
        refine lv_icmp_ne (tgt := 36) hx hb d_M_ready_19 (by decide) (fun hc => ?_) (fun hc => ?_)
        · replace hw := hw.1 hc
          refine lv_iload_n hx hb d_M_ready_36 rfl (lv_at hl 2 rfl) ?_
          refine lv_istore_n (lv' := [(2, .int x2), (0, .ref (a 0)), (1, .int x1), (3, .int x3)]) hx hb d_M_ready_37 rfl hl (by decide) rfl (fun ls hl => ?_)
          refine lv_iinc (k := 3) (v := x3 + 1) (lv' := [(3, .int (x3 + 1)), (2, .int x2), (0, .ref (a 0)), (1, .int x1)]) hx hb d_M_ready_38 hl rfl rfl (by decide) rfl (fun ls hl => ?_)
          refine lv_goto (tgt := 4) hx hb d_M_ready_41 (by decide) ?_
          exact ih_4 g x1 x2 (x3 + 1) _ _ _ hP hD hS (lv_sub hl [2, 3, 1, 0] rfl) hw
        · replace hw := hw.2 hc
          refine lv_aload_n hx hb d_M_ready_22 rfl (lv_at hl 0 rfl) ?_
          refine lv_iload_n hx hb d_M_ready_23 rfl (lv_at hl 3 rfl) ?_
          refine aft_i (va_runV (As := [.int x3]) (rest := []) ⟨hx, hb, hml, hown, hts⟩ (c_M_isReady l D a cI cZ _ g x3 _ hw) ⟨(callB_of 1 hts good_M_isReady rfl rfl rfl (hts _ tb_6) (hts _ tb_488) hd_M_isReady ⟨Nat.le_of_ble_eq_true rfl, Nat.le_of_ble_eq_true rfl⟩), hts _ tb_490, hts _ ts_36⟩ (preV 0 5 hP hD hK hN rfl rfl) rfl rfl hl.1 rfl (lv_room (Nat.le_of_ble_eq_true rfl)) d_M_ready_24 ⟨Nat.zero_le _, Nat.zero_le _⟩) hD hS hA hK (fun r24 u24 H locs hw hP hD hS => ?_)
          refine lv_if_eq (tgt := 36) hx hb d_M_ready_27 (by decide) (fun hc => ?_) (fun hc => ?_)
          · replace hw := hw.1 hc
            refine lv_iload_n hx hb d_M_ready_36 rfl (lv_at hl 2 rfl) ?_
            refine lv_istore_n (lv' := [(2, .int x2), (0, .ref (a 0)), (1, .int x1), (3, .int x3)]) hx hb d_M_ready_37 rfl hl (by decide) rfl (fun ls hl => ?_)
            refine lv_iinc (k := 3) (v := x3 + 1) (lv' := [(3, .int (x3 + 1)), (2, .int x2), (0, .ref (a 0)), (1, .int x1)]) hx hb d_M_ready_38 hl rfl rfl (by decide) rfl (fun ls hl => ?_)
            refine lv_goto (tgt := 4) hx hb d_M_ready_41 (by decide) ?_
            exact ih_4 u24 x1 x2 (x3 + 1) _ _ _ hP hD hS (lv_sub hl [2, 3, 1, 0] rfl) hw
          · replace hw := hw.2 hc
            refine lv_iload_n hx hb d_M_ready_30 rfl (lv_at hl 2 rfl) ?_
            refine lv_iconst (v := 1) hx hb d_M_ready_31 (by decide) ?_
            refine lv_iadd hx hb d_M_ready_32 ?_
            refine lv_goto (tgt := 37) hx hb d_M_ready_33 (by decide) ?_
            refine lv_istore_n (lv' := [(2, .int (x2 + 1)), (0, .ref (a 0)), (1, .int x1), (3, .int x3)]) hx hb d_M_ready_37 rfl hl (by decide) rfl (fun ls hl => ?_)
            refine lv_iinc (k := 3) (v := x3 + 1) (lv' := [(3, .int (x3 + 1)), (2, .int (x2 + 1)), (0, .ref (a 0)), (1, .int x1)]) hx hb d_M_ready_38 hl rfl rfl (by decide) rfl (fun ls hl => ?_)
            refine lv_goto (tgt := 4) hx hb d_M_ready_41 (by decide) ?_
            exact ih_4 u24 x1 (x2 + 1) (x3 + 1) _ _ _ hP hD hS (lv_sub hl [2, 3, 1, 0] rfl) hw
  unfold wp_M_ready at hw
  refine lv_iconst (v := 0) hx hb d_M_ready_0 (by decide) ?_
  refine lv_istore_n (lv' := [(2, .int 0), (0, .ref (a 0)), (1, .int x1)]) hx hb d_M_ready_1 rfl hl (by decide) rfl (fun ls hl => ?_)
  refine lv_iconst (v := 0) hx hb d_M_ready_2 (by decide) ?_
  refine lv_istore_n (lv' := [(3, .int 0), (2, .int 0), (0, .ref (a 0)), (1, .int x1)]) hx hb d_M_ready_3 rfl hl (by decide) rfl (fun ls hl => ?_)
  obtain ⟨n, hw⟩ := hw
  exact k_4 n g x1 0 0 _ _ _ hP hD hS (lv_sub hl [2, 3, 1, 0] rfl) hw
