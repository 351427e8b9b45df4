set_option maxHeartbeats 4000000 in
set_option maxRecDepth 100000 in
theorem c_M_waits (l : Launch) (D : va_G) (a : Nat → Nat) (cI cZ : ClassId) (sz : Nat) (g : St) (x1 : Int32) (Q : Int32 → St → Prop) (hw : wp_M_waits g x1 Q) : MT_z l y_M_waits b_M_waits 2 rm_M_waits (wM a cI cZ) D (ty_ cI cZ) sz g [.ref (a 0), .int x1] Q := by
  refine MTz_of (by decide +kernel) (Nat.le_of_ble_eq_true rfl) ?_
  intro p e s m args below meth c A Qt ls hx hb hml hts hown hN hK hP hD hA hl hret
  have hS : va_S A s.heap s.heap [] := va_S.rf
  have hl : lv_has ls 2 [(0, .ref (a 0)), (1, .int x1)] := hl
  unfold wp_M_waits at hw
  refine lv_aload_n hx hb d_M_waits_0 rfl (lv_at hl 0 rfl) ?_
  refine va_get (D := D) (ci := 5) (C := R_M) (T := F_M) (N := 19) hx hb hts in_M hown hK hP 0 rfl rfl 7 (by decide) (hts _ tb_376) (fun _ h9 => h9) rfl d_M_waits_1 ?_
  refine lv_iload_n hx hb d_M_waits_4 rfl (lv_at hl 1 rfl) ?_
  refine va_iald hx hb hK hP 7 0 rfl rfl hw.1 d_M_waits_5 ?_
  replace hw := hw.2
  refine lv_iconst (v := 1) hx hb d_M_waits_6 (by decide) ?_
  refine lv_icmp_ne (tgt := 24) hx hb d_M_waits_7 (by decide) (fun hc => ?_) (fun hc => ?_)
  · replace hw := hw.1 hc
    refine lv_iconst (v := 0) hx hb d_M_waits_24 (by decide) ?_
    exact hret _ _ _ _ _ _ rfl hw hP hD hS d_M_waits_25
  · replace hw := hw.2 hc
    refine lv_aload_n hx hb d_M_waits_10 rfl (lv_at hl 0 rfl) ?_
    refine va_get (D := D) (ci := 5) (C := R_M) (T := F_M) (N := 19) hx hb hts in_M hown hK hP 0 rfl rfl 6 (by decide) (hts _ tb_375) (fun _ h9 => h9) rfl d_M_waits_11 ?_
    refine lv_iload_n hx hb d_M_waits_14 rfl (lv_at hl 1 rfl) ?_
    refine va_iald hx hb hK hP 6 0 rfl rfl hw.1 d_M_waits_15 ?_
    replace hw := hw.2
    refine lv_iload_n hx hb d_M_waits_16 rfl (lv_at hl 1 rfl) ?_
    refine lv_icmp_ne (tgt := 24) hx hb d_M_waits_17 (by decide) (fun hc => ?_) (fun hc => ?_)
    · replace hw := hw.1 hc
      refine lv_iconst (v := 0) hx hb d_M_waits_24 (by decide) ?_
      exact hret _ _ _ _ _ _ rfl hw hP hD hS d_M_waits_25
    · replace hw := hw.2 hc
      refine lv_iconst (v := 1) hx hb d_M_waits_20 (by decide) ?_
      refine lv_goto (tgt := 25) hx hb d_M_waits_21 (by decide) ?_
      exact hret _ _ _ _ _ _ rfl hw hP hD hS d_M_waits_25
set_option maxHeartbeats 4000000 in
set_option maxRecDepth 100000 in
theorem c_M_start (l : Launch) (D : va_G) (a : Nat → Nat) (cI cZ : ClassId) (sz : Nat) (g : St) (x1 : Int32) (Q : Int32 → St → Prop) (hw : wp_M_start g x1 Q) : MT_i l y_M_start b_M_start 4 rm_M_start (wM a cI cZ) D (ty_ cI cZ) sz g [.ref (a 0), .int x1] Q := by
  refine MTi_of (by decide +kernel) (Nat.le_of_ble_eq_true rfl) ?_
  intro p e s m args below meth c A Qt ls hx hb hml hts hown hN hK hP hD hA hl hret
  have hS : va_S A s.heap s.heap [] := va_S.rf
  have hl : lv_has ls 4 [(0, .ref (a 0)), (1, .int x1)] := hl
  have k_5 : ∀ (n : Nat) (g : St) (x1 : Int32) (x2 : Int32) (x3 : Int32) (H : Heap) (locs : List Loc) (ls : Array Slot), va_P D cls_ (wM a cI cZ g) H → va_D A (wM a cI cZ g) → va_S A s.heap H locs → lv_has ls 4 [(0, .ref (a 0)), (1, .int x1), (2, .int x2), (3, .int x3)] → wl_M_start_5 Q n g x1 x2 x3 → W p l e rm_M_start s m args below meth c H locs 0 0 Qt (F0 m 5 ls []) := by
    intro n
    induction n with
    | zero => intro g x1 x2 x3 H locs ls hP hD hS hl hw; exact False.elim hw
    | succ n_5 ih_5 =>
      intro g x1 x2 x3 H locs ls hP hD hS hl hw
      unfold wl_M_start_5 at hw
      refine lv_iload_n hx hb d_M_start_5 rfl (lv_at hl 3 rfl) ?_
      refine lv_aload_n hx hb d_M_start_6 rfl (lv_at hl 0 rfl) ?_
      refine va_get (D := D) (ci := 5) (C := R_M) (T := F_M) (N := 19) hx hb hts in_M hown hK hP 0 rfl rfl 1 (by decide) (hts _ tb_370) (fun _ h9 => h9) rfl d_M_start_7 ?_
      refine lv_icmp_ge (tgt := 46) hx hb d_M_start_10 (by decide) (fun hc => ?_) (fun hc => ?_)
      · replace hw := hw.1 hc
        refine lv_iload_n hx hb d_M_start_46 rfl (lv_at hl 2 rfl) ?_
        exact hret _ _ _ _ _ _ hw hP hD hS d_M_start_47
      · replace hw := hw.2 hc
        refine lv_aload_n hx hb d_M_start_13 rfl (lv_at hl 0 rfl) ?_
        refine va_get (D := D) (ci := 5) (C := R_M) (T := F_M) (N := 19) hx hb hts in_M hown hK hP 0 rfl rfl 6 (by decide) (hts _ tb_375) (fun _ h9 => h9) rfl d_M_start_14 ?_
        refine lv_iload_n hx hb d_M_start_17 rfl (lv_at hl 3 rfl) ?_
        refine va_iald hx hb hK hP 6 0 rfl rfl hw.1 d_M_start_18 ?_
        replace hw := hw.2
        refine lv_iload_n hx hb d_M_start_19 rfl (lv_at hl 1 rfl) ?_
        refine lv_icmp_ne (tgt := 40) hx hb d_M_start_20 (by decide) (fun hc => ?_) (fun hc => ?_)
        · replace hw := hw.1 hc
          refine lv_iinc (k := 3) (v := x3 + 1) (lv' := [(3, .int (x3 + 1)), (0, .ref (a 0)), (1, .int x1), (2, .int x2)]) hx hb d_M_start_40 hl rfl rfl (by decide) rfl (fun ls hl => ?_)
          refine lv_goto (tgt := 5) hx hb d_M_start_43 (by decide) ?_
          exact ih_5 g x1 x2 (x3 + 1) _ _ _ hP hD hS (lv_sub hl [1, 2, 3, 0] rfl) hw
        · replace hw := hw.2 hc
          refine lv_aload_n hx hb d_M_start_23 rfl (lv_at hl 0 rfl) ?_
          refine va_get (D := D) (ci := 5) (C := R_M) (T := F_M) (N := 19) hx hb hts in_M hown hK hP 0 rfl rfl 3 (by decide) (hts _ tb_372) (fun _ h9 => h9) rfl d_M_start_24 ?_
          refine lv_iload_n hx hb d_M_start_27 rfl (lv_at hl 3 rfl) ?_
          refine va_iald hx hb hK hP 3 0 rfl rfl hw.1 d_M_start_28 ?_
          replace hw := hw.2
          refine lv_iload_n hx hb d_M_start_29 rfl (lv_at hl 2 rfl) ?_
          refine lv_icmp_ge (tgt := 40) hx hb d_M_start_30 (by decide) (fun hc => ?_) (fun hc => ?_)
          · replace hw := hw.1 hc
            refine lv_iinc (k := 3) (v := x3 + 1) (lv' := [(3, .int (x3 + 1)), (0, .ref (a 0)), (1, .int x1), (2, .int x2)]) hx hb d_M_start_40 hl rfl rfl (by decide) rfl (fun ls hl => ?_)
            refine lv_goto (tgt := 5) hx hb d_M_start_43 (by decide) ?_
            exact ih_5 g x1 x2 (x3 + 1) _ _ _ hP hD hS (lv_sub hl [1, 2, 3, 0] rfl) hw
          · replace hw := hw.2 hc
            refine lv_aload_n hx hb d_M_start_33 rfl (lv_at hl 0 rfl) ?_
            refine va_get (D := D) (ci := 5) (C := R_M) (T := F_M) (N := 19) hx hb hts in_M hown hK hP 0 rfl rfl 3 (by decide) (hts _ tb_372) (fun _ h9 => h9) rfl d_M_start_34 ?_
            refine lv_iload_n hx hb d_M_start_37 rfl (lv_at hl 3 rfl) ?_
            refine va_iald hx hb hK hP 3 0 rfl rfl hw.1 d_M_start_38 ?_
            replace hw := hw.2
            refine lv_istore_n (lv' := [(2, .int (g.1 2 x3.toNatClampNeg)), (0, .ref (a 0)), (1, .int x1), (3, .int x3)]) hx hb d_M_start_39 rfl hl (by decide) rfl (fun ls hl => ?_)
            refine lv_iinc (k := 3) (v := x3 + 1) (lv' := [(3, .int (x3 + 1)), (2, .int (g.1 2 x3.toNatClampNeg)), (0, .ref (a 0)), (1, .int x1)]) hx hb d_M_start_40 hl rfl rfl (by decide) rfl (fun ls hl => ?_)
            refine lv_goto (tgt := 5) hx hb d_M_start_43 (by decide) ?_
            exact ih_5 g x1 (g.1 2 x3.toNatClampNeg) (x3 + 1) _ _ _ hP hD hS (lv_sub hl [2, 3, 1, 0] rfl) hw
  unfold wp_M_start at hw
  refine lv_bipush (v := 64) hx hb d_M_start_0 (by decide) ?_
  refine lv_istore_n (lv' := [(2, .int 64), (0, .ref (a 0)), (1, .int x1)]) hx hb d_M_start_2 rfl hl (by decide) rfl (fun ls hl => ?_)
  refine lv_iconst (v := 0) hx hb d_M_start_3 (by decide) ?_
  refine lv_istore_n (lv' := [(3, .int 0), (2, .int 64), (0, .ref (a 0)), (1, .int x1)]) hx hb d_M_start_4 rfl hl (by decide) rfl (fun ls hl => ?_)
  obtain ⟨n, hw⟩ := hw
  exact k_5 n g x1 64 0 _ _ _ hP hD hS (lv_sub hl [2, 3, 1, 0] rfl) hw
set_option maxHeartbeats 4000000 in
set_option maxRecDepth 100000 in
theorem c_M_length (l : Launch) (D : va_G) (a : Nat → Nat) (cI cZ : ClassId) (sz : Nat) (g : St) (x1 : Int32) (Q : Int32 → St → Prop) (hw : wp_M_length g x1 Q) : MT_i l y_M_length b_M_length 4 rm_M_length (wM a cI cZ) D (ty_ cI cZ) sz g [.ref (a 0), .int x1] Q := by
  refine MTi_of (by decide +kernel) (Nat.le_of_ble_eq_true rfl) ?_
  intro p e s m args below meth c A Qt ls hx hb hml hts hown hN hK hP hD hA hl hret
  have hS : va_S A s.heap s.heap [] := va_S.rf
  have hl : lv_has ls 4 [(0, .ref (a 0)), (1, .int x1)] := hl
  have k_4 : ∀ (n : Nat) (g : St) (x1 : Int32) (x2 : Int32) (x3 : Int32) (H : Heap) (locs : List Loc) (ls : Array Slot), va_P D cls_ (wM a cI cZ g) H → va_D A (wM a cI cZ g) → va_S A s.heap H locs → lv_has ls 4 [(0, .ref (a 0)), (1, .int x1), (2, .int x2), (3, .int x3)] → wl_M_length_4 Q n g x1 x2 x3 → W p l e rm_M_length s m args below meth c H locs 0 0 Qt (F0 m 4 ls []) := by
    intro n
    induction n with
    | zero => intro g x1 x2 x3 H locs ls hP hD hS hl hw; exact False.elim hw
    | succ n_4 ih_4 =>
      intro g x1 x2 x3 H locs ls hP hD hS hl hw
      unfold wl_M_length_4 at hw
      refine lv_iload_n hx hb d_M_length_4 rfl (lv_at hl 3 rfl) ?_
      refine lv_aload_n hx hb d_M_length_5 rfl (lv_at hl 0 rfl) ?_
      refine va_get (D := D) (ci := 5) (C := R_M) (T := F_M) (N := 19) hx hb hts in_M hown hK hP 0 rfl rfl 1 (by decide) (hts _ tb_370) (fun _ h9 => h9) rfl d_M_length_6 ?_
      refine lv_icmp_ge (tgt := 41) hx hb d_M_length_9 (by decide) (fun hc => ?_) (fun hc => ?_)
      · replace hw := hw.1 hc
        refine lv_iload_n hx hb d_M_length_41 rfl (lv_at hl 2 rfl) ?_
        exact hret _ _ _ _ _ _ hw hP hD hS d_M_length_42
      · replace hw := hw.2 hc
        refine lv_aload_n hx hb d_M_length_12 rfl (lv_at hl 0 rfl) ?_
        refine va_get (D := D) (ci := 5) (C := R_M) (T := F_M) (N := 19) hx hb hts in_M hown hK hP 0 rfl rfl 6 (by decide) (hts _ tb_375) (fun _ h9 => h9) rfl d_M_length_13 ?_
        refine lv_iload_n hx hb d_M_length_16 rfl (lv_at hl 3 rfl) ?_
        refine va_iald hx hb hK hP 6 0 rfl rfl hw.1 d_M_length_17 ?_
        replace hw := hw.2
        refine lv_iload_n hx hb d_M_length_18 rfl (lv_at hl 1 rfl) ?_
        refine lv_icmp_ne (tgt := 33) hx hb d_M_length_19 (by decide) (fun hc => ?_) (fun hc => ?_)
        · replace hw := hw.1 hc
          refine lv_iload_n hx hb d_M_length_33 rfl (lv_at hl 2 rfl) ?_
          refine lv_istore_n (lv' := [(2, .int x2), (0, .ref (a 0)), (1, .int x1), (3, .int x3)]) hx hb d_M_length_34 rfl hl (by decide) rfl (fun ls hl => ?_)
          refine lv_iinc (k := 3) (v := x3 + 1) (lv' := [(3, .int (x3 + 1)), (2, .int x2), (0, .ref (a 0)), (1, .int x1)]) hx hb d_M_length_35 hl rfl rfl (by decide) rfl (fun ls hl => ?_)
          refine lv_goto (tgt := 4) hx hb d_M_length_38 (by decide) ?_
          exact ih_4 g x1 x2 (x3 + 1) _ _ _ hP hD hS (lv_sub hl [2, 3, 1, 0] rfl) hw
        · replace hw := hw.2 hc
          refine lv_iload_n hx hb d_M_length_22 rfl (lv_at hl 2 rfl) ?_
          refine lv_aload_n hx hb d_M_length_23 rfl (lv_at hl 0 rfl) ?_
          refine va_get (D := D) (ci := 5) (C := R_M) (T := F_M) (N := 19) hx hb hts in_M hown hK hP 0 rfl rfl 4 (by decide) (hts _ tb_373) (fun _ h9 => h9) rfl d_M_length_24 ?_
          refine lv_iload_n hx hb d_M_length_27 rfl (lv_at hl 3 rfl) ?_
          refine va_iald hx hb hK hP 4 0 rfl rfl hw.1 d_M_length_28 ?_
          replace hw := hw.2
          refine lv_iadd hx hb d_M_length_29 ?_
          refine lv_goto (tgt := 34) hx hb d_M_length_30 (by decide) ?_
          refine lv_istore_n (lv' := [(2, .int (x2 + (g.1 3 x3.toNatClampNeg))), (0, .ref (a 0)), (1, .int x1), (3, .int x3)]) hx hb d_M_length_34 rfl hl (by decide) rfl (fun ls hl => ?_)
          refine lv_iinc (k := 3) (v := x3 + 1) (lv' := [(3, .int (x3 + 1)), (2, .int (x2 + (g.1 3 x3.toNatClampNeg))), (0, .ref (a 0)), (1, .int x1)]) hx hb d_M_length_35 hl rfl rfl (by decide) rfl (fun ls hl => ?_)
          refine lv_goto (tgt := 4) hx hb d_M_length_38 (by decide) ?_
          exact ih_4 g x1 (x2 + (g.1 3 x3.toNatClampNeg)) (x3 + 1) _ _ _ hP hD hS (lv_sub hl [2, 3, 1, 0] rfl) hw
  unfold wp_M_length at hw
  refine lv_iconst (v := 0) hx hb d_M_length_0 (by decide) ?_
  refine lv_istore_n (lv' := [(2, .int 0), (0, .ref (a 0)), (1, .int x1)]) hx hb d_M_length_1 rfl hl (by decide) rfl (fun ls hl => ?_)
  refine lv_iconst (v := 0) hx hb d_M_length_2 (by decide) ?_
  refine lv_istore_n (lv' := [(3, .int 0), (2, .int 0), (0, .ref (a 0)), (1, .int x1)]) hx hb d_M_length_3 rfl hl (by decide) rfl (fun ls hl => ?_)
  obtain ⟨n, hw⟩ := hw
  exact k_4 n g x1 0 0 _ _ _ hP hD hS (lv_sub hl [2, 3, 1, 0] rfl) hw
set_option maxHeartbeats 4000000 in
set_option maxRecDepth 100000 in
theorem c_M_members (l : Launch) (D : va_G) (a : Nat → Nat) (cI cZ : ClassId) (sz : Nat) (g : St) (x1 : Int32) (Q : Int32 → St → Prop) (hw : wp_M_members g x1 Q) : MT_i l y_M_members b_M_members 4 rm_M_members (wM a cI cZ) D (ty_ cI cZ) sz g [.ref (a 0), .int x1] Q := by
  refine MTi_of (by decide +kernel) (Nat.le_of_ble_eq_true rfl) ?_
  intro p e s m args below meth c A Qt ls hx hb hml hts hown hN hK hP hD hA hl hret
  have hS : va_S A s.heap s.heap [] := va_S.rf
  have hl : lv_has ls 4 [(0, .ref (a 0)), (1, .int x1)] := hl
  have k_4 : ∀ (n : Nat) (g : St) (x1 : Int32) (x2 : Int32) (x3 : Int32) (H : Heap) (locs : List Loc) (ls : Array Slot), va_P D cls_ (wM a cI cZ g) H → va_D A (wM a cI cZ g) → va_S A s.heap H locs → lv_has ls 4 [(0, .ref (a 0)), (1, .int x1), (2, .int x2), (3, .int x3)] → wl_M_members_4 Q n g x1 x2 x3 → W p l e rm_M_members s m args below meth c H locs 0 0 Qt (F0 m 4 ls []) := by
    intro n
    induction n with
    | zero => intro g x1 x2 x3 H locs ls hP hD hS hl hw; exact False.elim hw
    | succ n_4 ih_4 =>
      intro g x1 x2 x3 H locs ls hP hD hS hl hw
      unfold wl_M_members_4 at hw
      refine lv_iload_n hx hb d_M_members_4 rfl (lv_at hl 3 rfl) ?_
      refine lv_aload_n hx hb d_M_members_5 rfl (lv_at hl 0 rfl) ?_
      refine va_get (D := D) (ci := 5) (C := R_M) (T := F_M) (N := 19) hx hb hts in_M hown hK hP 0 rfl rfl 1 (by decide) (hts _ tb_370) (fun _ h9 => h9) rfl d_M_members_6 ?_
      refine lv_icmp_ge (tgt := 36) hx hb d_M_members_9 (by decide) (fun hc => ?_) (fun hc => ?_)
      · replace hw := hw.1 hc
        refine lv_iload_n hx hb d_M_members_36 rfl (lv_at hl 2 rfl) ?_
        exact hret _ _ _ _ _ _ hw hP hD hS d_M_members_37
      · replace hw := hw.2 hc
        refine lv_aload_n hx hb d_M_members_12 rfl (lv_at hl 0 rfl) ?_
        refine va_get (D := D) (ci := 5) (C := R_M) (T := F_M) (N := 19) hx hb hts in_M hown hK hP 0 rfl rfl 6 (by decide) (hts _ tb_375) (fun _ h9 => h9) rfl d_M_members_13 ?_
        refine lv_iload_n hx hb d_M_members_16 rfl (lv_at hl 3 rfl) ?_
        refine va_iald hx hb hK hP 6 0 rfl rfl hw.1 d_M_members_17 ?_
        replace hw := hw.2
        refine lv_iload_n hx hb d_M_members_18 rfl (lv_at hl 1 rfl) ?_
        refine lv_icmp_ne (tgt := 28) hx hb d_M_members_19 (by decide) (fun hc => ?_) (fun hc => ?_)
        · replace hw := hw.1 hc
          refine lv_iload_n hx hb d_M_members_28 rfl (lv_at hl 2 rfl) ?_
          refine lv_istore_n (lv' := [(2, .int x2), (0, .ref (a 0)), (1, .int x1), (3, .int x3)]) hx hb d_M_members_29 rfl hl (by decide) rfl (fun ls hl => ?_)
          refine lv_iinc (k := 3) (v := x3 + 1) (lv' := [(3, .int (x3 + 1)), (2, .int x2), (0, .ref (a 0)), (1, .int x1)]) hx hb d_M_members_30 hl rfl rfl (by decide) rfl (fun ls hl => ?_)
          refine lv_goto (tgt := 4) hx hb d_M_members_33 (by decide) ?_
          exact ih_4 g x1 x2 (x3 + 1) _ _ _ hP hD hS (lv_sub hl [2, 3, 1, 0] rfl) hw
        · replace hw := hw.2 hc
          refine lv_iload_n hx hb d_M_members_22 rfl (lv_at hl 2 rfl) ?_
          refine lv_iconst (v := 1) hx hb d_M_members_23 (by decide) ?_
          refine lv_iadd hx hb d_M_members_24 ?_
          refine lv_goto (tgt := 29) hx hb d_M_members_25 (by decide) ?_
          refine lv_istore_n (lv' := [(2, .int (x2 + 1)), (0, .ref (a 0)), (1, .int x1), (3, .int x3)]) hx hb d_M_members_29 rfl hl (by decide) rfl (fun ls hl => ?_)
          refine lv_iinc (k := 3) (v := x3 + 1) (lv' := [(3, .int (x3 + 1)), (2, .int (x2 + 1)), (0, .ref (a 0)), (1, .int x1)]) hx hb d_M_members_30 hl rfl rfl (by decide) rfl (fun ls hl => ?_)
          refine lv_goto (tgt := 4) hx hb d_M_members_33 (by decide) ?_
          exact ih_4 g x1 (x2 + 1) (x3 + 1) _ _ _ hP hD hS (lv_sub hl [2, 3, 1, 0] rfl) hw
  unfold wp_M_members at hw
  refine lv_iconst (v := 0) hx hb d_M_members_0 (by decide) ?_
  refine lv_istore_n (lv' := [(2, .int 0), (0, .ref (a 0)), (1, .int x1)]) hx hb d_M_members_1 rfl hl (by decide) rfl (fun ls hl => ?_)
  refine lv_iconst (v := 0) hx hb d_M_members_2 (by decide) ?_
  refine lv_istore_n (lv' := [(3, .int 0), (2, .int 0), (0, .ref (a 0)), (1, .int x1)]) hx hb d_M_members_3 rfl hl (by decide) rfl (fun ls hl => ?_)
  obtain ⟨n, hw⟩ := hw
  exact k_4 n g x1 0 0 _ _ _ hP hD hS (lv_sub hl [2, 3, 1, 0] rfl) hw
set_option maxHeartbeats 4000000 in
set_option maxRecDepth 100000 in
theorem c_M_conflict (l : Launch) (D : va_G) (a : Nat → Nat) (cI cZ : ClassId) (sz : Nat) (g : St) (x1 : Int32) (x2 : Int32) (Q : Int32 → St → Prop) (hw : wp_M_conflict g x1 x2 Q) : MT_z l y_M_conflict b_M_conflict 3 rm_M_conflict (wM a cI cZ) D (ty_ cI cZ) sz g [.ref (a 0), .int x1, .int x2] Q := by
  refine MTz_of (by decide +kernel) (Nat.le_of_ble_eq_true rfl) ?_
  intro p e s m args below meth c A Qt ls hx hb hml hts hown hN hK hP hD hA hl hret
  have hS : va_S A s.heap s.heap [] := va_S.rf
  have hl : lv_has ls 3 [(0, .ref (a 0)), (1, .int x1), (2, .int x2)] := hl
  have k_20 : ∀ (g : St) (x1 : Int32) (x2 : Int32) (H : Heap) (locs : List Loc) (ls : Array Slot), va_P D cls_ (wM a cI cZ g) H → va_D A (wM a cI cZ g) → va_S A s.heap H locs → lv_has ls 3 [(0, .ref (a 0)), (1, .int x1), (2, .int x2)] → wb_M_conflict_20 Q g x1 x2 → W p l e rm_M_conflict s m args below meth c H locs 0 0 Qt (F0 m 20 ls []) := by
    intro g x1 x2 H locs ls hP hD hS hl hw
    unfold wb_M_conflict_20 at hw
    refine lv_aload_n hx hb d_M_conflict_20 rfl (lv_at hl 0 rfl) ?_
    refine va_get (D := D) (ci := 5) (C := R_M) (T := F_M) (N := 19) hx hb hts in_M hown hK hP 0 rfl rfl 3 (by decide) (hts _ tb_372) (fun _ h9 => h9) rfl d_M_conflict_21 ?_
    refine lv_iload_n hx hb d_M_conflict_24 rfl (lv_at hl 1 rfl) ?_
    refine va_iald hx hb hK hP 3 0 rfl rfl hw.1 d_M_conflict_25 ?_
    replace hw := hw.2
    refine lv_aload_n hx hb d_M_conflict_26 rfl (lv_at hl 0 rfl) ?_
    refine va_get (D := D) (ci := 5) (C := R_M) (T := F_M) (N := 19) hx hb hts in_M hown hK hP 0 rfl rfl 3 (by decide) (hts _ tb_372) (fun _ h9 => h9) rfl d_M_conflict_27 ?_
    refine lv_iload_n hx hb d_M_conflict_30 rfl (lv_at hl 2 rfl) ?_
    refine va_iald hx hb hK hP 3 0 rfl rfl hw.1 d_M_conflict_31 ?_
    replace hw := hw.2
    refine lv_aload_n hx hb d_M_conflict_32 rfl (lv_at hl 0 rfl) ?_
    refine va_get (D := D) (ci := 5) (C := R_M) (T := F_M) (N := 19) hx hb hts in_M hown hK hP 0 rfl rfl 4 (by decide) (hts _ tb_373) (fun _ h9 => h9) rfl d_M_conflict_33 ?_
    refine lv_iload_n hx hb d_M_conflict_36 rfl (lv_at hl 2 rfl) ?_
    refine va_iald hx hb hK hP 4 0 rfl rfl hw.1 d_M_conflict_37 ?_
    replace hw := hw.2
    refine lv_iadd hx hb d_M_conflict_38 ?_
    refine lv_icmp_ge (tgt := 68) hx hb d_M_conflict_39 (by decide) (fun hc => ?_) (fun hc => ?_)
    · replace hw := hw.1 hc
      refine lv_iconst (v := 0) hx hb d_M_conflict_68 (by decide) ?_
      exact hret _ _ _ _ _ _ rfl hw hP hD hS d_M_conflict_69
    · replace hw := hw.2 hc
      refine lv_aload_n hx hb d_M_conflict_42 rfl (lv_at hl 0 rfl) ?_
      refine va_get (D := D) (ci := 5) (C := R_M) (T := F_M) (N := 19) hx hb hts in_M hown hK hP 0 rfl rfl 3 (by decide) (hts _ tb_372) (fun _ h9 => h9) rfl d_M_conflict_43 ?_
      refine lv_iload_n hx hb d_M_conflict_46 rfl (lv_at hl 2 rfl) ?_
      refine va_iald hx hb hK hP 3 0 rfl rfl hw.1 d_M_conflict_47 ?_
      replace hw := hw.2
      refine lv_aload_n hx hb d_M_conflict_48 rfl (lv_at hl 0 rfl) ?_
      refine va_get (D := D) (ci := 5) (C := R_M) (T := F_M) (N := 19) hx hb hts in_M hown hK hP 0 rfl rfl 3 (by decide) (hts _ tb_372) (fun _ h9 => h9) rfl d_M_conflict_49 ?_
      refine lv_iload_n hx hb d_M_conflict_52 rfl (lv_at hl 1 rfl) ?_
      refine va_iald hx hb hK hP 3 0 rfl rfl hw.1 d_M_conflict_53 ?_
      replace hw := hw.2
      refine lv_aload_n hx hb d_M_conflict_54 rfl (lv_at hl 0 rfl) ?_
      refine va_get (D := D) (ci := 5) (C := R_M) (T := F_M) (N := 19) hx hb hts in_M hown hK hP 0 rfl rfl 4 (by decide) (hts _ tb_373) (fun _ h9 => h9) rfl d_M_conflict_55 ?_
      refine lv_iload_n hx hb d_M_conflict_58 rfl (lv_at hl 1 rfl) ?_
      refine va_iald hx hb hK hP 4 0 rfl rfl hw.1 d_M_conflict_59 ?_
      replace hw := hw.2
      refine lv_iadd hx hb d_M_conflict_60 ?_
      refine lv_icmp_ge (tgt := 68) hx hb d_M_conflict_61 (by decide) (fun hc => ?_) (fun hc => ?_)
      · replace hw := hw.1 hc
        refine lv_iconst (v := 0) hx hb d_M_conflict_68 (by decide) ?_
        exact hret _ _ _ _ _ _ rfl hw hP hD hS d_M_conflict_69
      · replace hw := hw.2 hc
        refine lv_iconst (v := 1) hx hb d_M_conflict_64 (by decide) ?_
        refine lv_goto (tgt := 69) hx hb d_M_conflict_65 (by decide) ?_
        exact hret _ _ _ _ _ _ rfl hw hP hD hS d_M_conflict_69
  unfold wp_M_conflict at hw
  refine lv_aload_n hx hb d_M_conflict_0 rfl (lv_at hl 0 rfl) ?_
  refine va_get (D := D) (ci := 5) (C := R_M) (T := F_M) (N := 19) hx hb hts in_M hown hK hP 0 rfl rfl 2 (by decide) (hts _ tb_371) (fun _ h9 => h9) rfl d_M_conflict_1 ?_
  refine lv_iload_n hx hb d_M_conflict_4 rfl (lv_at hl 1 rfl) ?_
  refine va_iald hx hb hK hP 2 0 rfl rfl hw.1 d_M_conflict_5 ?_
  replace hw := hw.2
  refine lv_iconst (v := 1) hx hb d_M_conflict_6 (by decide) ?_
  refine lv_icmp_eq (tgt := 20) hx hb d_M_conflict_7 (by decide) (fun hc => ?_) (fun hc => ?_)
  · replace hw := hw.1 hc
    exact k_20 g x1 x2 _ _ _ hP hD hS (lv_sub hl [0, 1, 2] rfl) hw
  · replace hw := hw.2 hc
    refine lv_aload_n hx hb d_M_conflict_10 rfl (lv_at hl 0 rfl) ?_
    refine va_get (D := D) (ci := 5) (C := R_M) (T := F_M) (N := 19) hx hb hts in_M hown hK hP 0 rfl rfl 2 (by decide) (hts _ tb_371) (fun _ h9 => h9) rfl d_M_conflict_11 ?_
    refine lv_iload_n hx hb d_M_conflict_14 rfl (lv_at hl 2 rfl) ?_
    refine va_iald hx hb hK hP 2 0 rfl rfl hw.1 d_M_conflict_15 ?_
    replace hw := hw.2
    refine lv_iconst (v := 1) hx hb d_M_conflict_16 (by decide) ?_
    refine lv_icmp_ne (tgt := 68) hx hb d_M_conflict_17 (by decide) (fun hc => ?_) (fun hc => ?_)
    · replace hw := hw.1 hc
      refine lv_iconst (v := 0) hx hb d_M_conflict_68 (by decide) ?_
      exact hret _ _ _ _ _ _ rfl hw hP hD hS d_M_conflict_69
    · replace hw := hw.2 hc
      exact k_20 g x1 x2 _ _ _ hP hD hS (lv_sub hl [0, 1, 2] rfl) hw
set_option maxHeartbeats 4000000 in
set_option maxRecDepth 100000 in
theorem c_M_isReady (l : Launch) (D : va_G) (a : Nat → Nat) (cI cZ : ClassId) (sz : Nat) (g : St) (x1 : Int32) (Q : Int32 → St → Prop) (hw : wp_M_isReady g x1 Q) : MT_z l y_M_isReady b_M_isReady 4 rm_M_isReady (wM a cI cZ) D (ty_ cI cZ) sz g [.ref (a 0), .int x1] Q := by
  refine MTz_of (by decide +kernel) (Nat.le_of_ble_eq_true rfl) ?_
  intro p e s m args below meth c A Qt ls hx hb hml hts hown hN hK hP hD hA hl hret
  have hS : va_S A s.heap s.heap [] := va_S.rf
  have hl : lv_has ls 4 [(0, .ref (a 0)), (1, .int x1)] := hl
  have k_12 : ∀ (n : Nat) (g : St) (x1 : Int32) (x2 : Int32) (H : Heap) (locs : List Loc) (ls : Array Slot), va_P D cls_ (wM a cI cZ g) H → va_D A (wM a cI cZ g) → va_S A s.heap H locs → lv_has ls 4 [(0, .ref (a 0)), (1, .int x1), (2, .int x2)] → wl_M_isReady_12 Q n g x1 x2 → W p l e rm_M_isReady s m args below meth c H locs 0 0 Qt (F0 m 12 ls []) := by
    intro n
    induction n with
    | zero => intro g x1 x2 H locs ls hP hD hS hl hw; exact False.elim hw
    | succ n_12 ih_12 =>
      have k_66 : ∀ (n : Nat) (g : St) (x1 : Int32) (x2 : Int32) (x3 : Int32) (H : Heap) (locs : List Loc) (ls : Array Slot), va_P D cls_ (wM a cI cZ g) H → va_D A (wM a cI cZ g) → va_S A s.heap H locs → lv_has ls 4 [(0, .ref (a 0)), (1, .int x1), (2, .int x2), (3, .int x3)] → wl_M_isReady_66 (wl_M_isReady_12 Q n_12) Q n g x1 x2 x3 → W p l e rm_M_isReady s m args below meth c H locs 0 0 Qt (F0 m 66 ls []) := by
        intro n
        induction n with
        | zero => intro g x1 x2 x3 H locs ls hP hD hS hl hw; exact False.elim hw
        | succ n_66 ih_66 =>
          intro g x1 x2 x3 H locs ls hP hD hS hl hw
          unfold wl_M_isReady_66 at hw
          refine lv_iload_n hx hb d_M_isReady_66 rfl (lv_at hl 3 rfl) ?_
          refine lv_aload_n hx hb d_M_isReady_67 rfl (lv_at hl 0 rfl) ?_
          refine va_get (D := D) (ci := 5) (C := R_M) (T := F_M) (N := 19) hx hb hts in_M hown hK hP 0 rfl rfl 1 (by decide) (hts _ tb_370) (fun _ h9 => h9) rfl d_M_isReady_68 ?_
          refine lv_icmp_ge (tgt := 101) hx hb d_M_isReady_71 (by decide) (fun hc => ?_) (fun hc => ?_)
          · replace hw := hw.1 hc
            refine lv_iinc (k := 2) (v := x2 + 1) (lv' := [(2, .int (x2 + 1)), (0, .ref (a 0)), (1, .int x1), (3, .int x3)]) hx hb d_M_isReady_101 hl rfl rfl (by decide) rfl (fun ls hl => ?_)
            refine lv_goto (tgt := 12) hx hb d_M_isReady_104 (by decide) ?_
            exact ih_12 g x1 (x2 + 1) _ _ _ hP hD hS (lv_sub hl [1, 2, 0] rfl) hw
          · replace hw := hw.2 hc
            refine lv_aload_n hx hb d_M_isReady_74 rfl (lv_at hl 0 rfl) ?_
            refine va_get (D := D) (ci := 5) (C := R_M) (T := F_M) (N := 19) hx hb hts in_M hown hK hP 0 rfl rfl 6 (by decide) (hts _ tb_375) (fun _ h9 => h9) rfl d_M_isReady_75 ?_
            refine lv_iload_n hx hb d_M_isReady_78 rfl (lv_at hl 3 rfl) ?_
            refine va_iald hx hb hK hP 6 0 rfl rfl hw.1 d_M_isReady_79 ?_
            replace hw := hw.2
            refine lv_iload_n hx hb d_M_isReady_80 rfl (lv_at hl 1 rfl) ?_
            refine lv_icmp_ne (tgt := 95) hx hb d_M_isReady_81 (by decide) (fun hc => ?_) (fun hc => ?_)
            · replace hw := hw.1 hc
              refine lv_iinc (k := 3) (v := x3 + 1) (lv' := [(3, .int (x3 + 1)), (0, .ref (a 0)), (1, .int x1), (2, .int x2)]) hx hb d_M_isReady_95 hl rfl rfl (by decide) rfl (fun ls hl => ?_)
              refine lv_goto (tgt := 66) hx hb d_M_isReady_98 (by decide) ?_
              exact ih_66 g x1 x2 (x3 + 1) _ _ _ hP hD hS (lv_sub hl [1, 2, 3, 0] rfl) hw
            · replace hw := hw.2 hc
              refine lv_aload_n hx hb d_M_isReady_84 rfl (lv_at hl 0 rfl) ?_
              refine lv_iload_n hx hb d_M_isReady_85 rfl (lv_at hl 3 rfl) ?_
              refine lv_iload_n hx hb d_M_isReady_86 rfl (lv_at hl 2 rfl) ?_
              refine aft_i (va_runV (As := [.int x3, .int x2]) (rest := []) ⟨hx, hb, hml, hown, hts⟩ (c_M_conflict l D a cI cZ _ g x3 x2 _ hw) ⟨(callB_of 2 hts good_M_conflict rfl rfl rfl (hts _ tb_6) (hts _ tb_447) hd_M_conflict ⟨Nat.le_of_ble_eq_true rfl, Nat.le_of_ble_eq_true rfl⟩), hts _ tb_449, hts _ ts_31⟩ (preV 0 5 hP hD hK hN rfl rfl) rfl rfl hl.1 rfl (lv_room (Nat.le_of_ble_eq_true rfl)) d_M_isReady_87 ⟨Nat.zero_le _, Nat.zero_le _⟩) hD hS hA hK (fun r87 u87 H locs hw hP hD hS => ?_)
              refine lv_if_eq (tgt := 95) hx hb d_M_isReady_90 (by decide) (fun hc => ?_) (fun hc => ?_)
              · replace hw := hw.1 hc
                refine lv_iinc (k := 3) (v := x3 + 1) (lv' := [(3, .int (x3 + 1)), (0, .ref (a 0)), (1, .int x1), (2, .int x2)]) hx hb d_M_isReady_95 hl rfl rfl (by decide) rfl (fun ls hl => ?_)
                refine lv_goto (tgt := 66) hx hb d_M_isReady_98 (by decide) ?_
                exact ih_66 u87 x1 x2 (x3 + 1) _ _ _ hP hD hS (lv_sub hl [1, 2, 3, 0] rfl) hw
              · replace hw := hw.2 hc
                refine lv_iconst (v := 0) hx hb d_M_isReady_93 (by decide) ?_
                exact hret _ _ _ _ _ _ rfl hw hP hD hS d_M_isReady_94
      intro g x1 x2 H locs ls hP hD hS hl hw
      unfold wl_M_isReady_12 at hw
      refine lv_iload_n hx hb d_M_isReady_12 rfl (lv_at hl 2 rfl) ?_
      refine lv_aload_n hx hb d_M_isReady_13 rfl (lv_at hl 0 rfl) ?_
      refine va_get (D := D) (ci := 5) (C := R_M) (T := F_M) (N := 19) hx hb hts in_M hown hK hP 0 rfl rfl 1 (by decide) (hts _ tb_370) (fun _ h9 => h9) rfl d_M_isReady_14 ?_
      refine lv_icmp_ge (tgt := 107) hx hb d_M_isReady_17 (by decide) (fun hc => ?_) (fun hc => ?_)
      · replace hw := hw.1 hc
        refine lv_iconst (v := 1) hx hb d_M_isReady_107 (by decide) ?_
        exact hret _ _ _ _ _ _ rfl hw hP hD hS d_M_isReady_108
      · replace hw := hw.2 hc
        refine lv_aload_n hx hb d_M_isReady_20 rfl (lv_at hl 0 rfl) ?_
        refine va_get (D := D) (ci := 5) (C := R_M) (T := F_M) (N := 19) hx hb hts in_M hown hK hP 0 rfl rfl 7 (by decide) (hts _ tb_376) (fun _ h9 => h9) rfl d_M_isReady_21 ?_
        refine lv_iload_n hx hb d_M_isReady_24 rfl (lv_at hl 2 rfl) ?_
        refine va_iald hx hb hK hP 7 0 rfl rfl hw.1 d_M_isReady_25 ?_
        replace hw := hw.2
        refine lv_iconst (v := 1) hx hb d_M_isReady_26 (by decide) ?_
        refine lv_icmp_ne (tgt := 101) hx hb d_M_isReady_27 (by decide) (fun hc => ?_) (fun hc => ?_)
        · replace hw := hw.1 hc
          refine lv_iinc (k := 2) (v := x2 + 1) (lv' := [(2, .int (x2 + 1)), (0, .ref (a 0)), (1, .int x1)]) hx hb d_M_isReady_101 hl rfl rfl (by decide) rfl (fun ls hl => ?_)
          refine lv_goto (tgt := 12) hx hb d_M_isReady_104 (by decide) ?_
          exact ih_12 g x1 (x2 + 1) _ _ _ hP hD hS (lv_sub hl [1, 2, 0] rfl) hw
        · replace hw := hw.2 hc
          refine lv_aload_n hx hb d_M_isReady_30 rfl (lv_at hl 0 rfl) ?_
          refine va_get (D := D) (ci := 5) (C := R_M) (T := F_M) (N := 19) hx hb hts in_M hown hK hP 0 rfl rfl 6 (by decide) (hts _ tb_375) (fun _ h9 => h9) rfl d_M_isReady_31 ?_
          refine lv_iload_n hx hb d_M_isReady_34 rfl (lv_at hl 2 rfl) ?_
          refine va_iald hx hb hK hP 6 0 rfl rfl hw.1 d_M_isReady_35 ?_
          replace hw := hw.2
          refine lv_iload_n hx hb d_M_isReady_36 rfl (lv_at hl 1 rfl) ?_
          refine lv_icmp_eq (tgt := 101) hx hb d_M_isReady_37 (by decide) (fun hc => ?_) (fun hc => ?_)
          · replace hw := hw.1 hc
            refine lv_iinc (k := 2) (v := x2 + 1) (lv' := [(2, .int (x2 + 1)), (0, .ref (a 0)), (1, .int x1)]) hx hb d_M_isReady_101 hl rfl rfl (by decide) rfl (fun ls hl => ?_)
            refine lv_goto (tgt := 12) hx hb d_M_isReady_104 (by decide) ?_
            exact ih_12 g x1 (x2 + 1) _ _ _ hP hD hS (lv_sub hl [1, 2, 0] rfl) hw
          · replace hw := hw.2 hc
            refine lv_aload_n hx hb d_M_isReady_40 rfl (lv_at hl 0 rfl) ?_
            refine va_get (D := D) (ci := 5) (C := R_M) (T := F_M) (N := 19) hx hb hts in_M hown hK hP 0 rfl rfl 10 (by decide) (hts _ tb_379) (fun _ h9 => h9) rfl d_M_isReady_41 ?_
            refine lv_aload_n hx hb d_M_isReady_44 rfl (lv_at hl 0 rfl) ?_
            refine va_get (D := D) (ci := 5) (C := R_M) (T := F_M) (N := 19) hx hb hts in_M hown hK hP 0 rfl rfl 6 (by decide) (hts _ tb_375) (fun _ h9 => h9) rfl d_M_isReady_45 ?_
            refine lv_iload_n hx hb d_M_isReady_48 rfl (lv_at hl 2 rfl) ?_
            refine va_iald hx hb hK hP 6 0 rfl rfl hw.1 d_M_isReady_49 ?_
            replace hw := hw.2
            refine va_iald hx hb hK hP 10 0 rfl rfl hw.1 d_M_isReady_50 ?_
            replace hw := hw.2
            refine lv_aload_n hx hb d_M_isReady_51 rfl (lv_at hl 0 rfl) ?_
            refine va_get (D := D) (ci := 5) (C := R_M) (T := F_M) (N := 19) hx hb hts in_M hown hK hP 0 rfl rfl 10 (by decide) (hts _ tb_379) (fun _ h9 => h9) rfl d_M_isReady_52 ?_
            refine lv_iload_n hx hb d_M_isReady_55 rfl (lv_at hl 1 rfl) ?_
            refine va_iald hx hb hK hP 10 0 rfl rfl hw.1 d_M_isReady_56 ?_
            replace hw := hw.2
            refine lv_icmp_ge (tgt := 62) hx hb d_M_isReady_57 (by decide) (fun hc => ?_) (fun hc => ?_)
            · replace hw := hw.1 hc
              refine lv_iload_n hx hb d_M_isReady_62 rfl (lv_at hl 2 rfl) ?_
              refine lv_iconst (v := 1) hx hb d_M_isReady_63 (by decide) ?_
              refine lv_iadd hx hb d_M_isReady_64 ?_
              refine lv_istore_n (lv' := [(3, .int (x2 + 1)), (0, .ref (a 0)), (1, .int x1), (2, .int x2)]) hx hb d_M_isReady_65 rfl hl (by decide) rfl (fun ls hl => ?_)
              obtain ⟨n, hw⟩ := hw
              exact k_66 n g x1 x2 (x2 + 1) _ _ _ hP hD hS (lv_sub hl [1, 2, 3, 0] rfl) hw
            · replace hw := hw.2 hc
              refine lv_iconst (v := 0) hx hb d_M_isReady_60 (by decide) ?_
              exact hret _ _ _ _ _ _ rfl hw hP hD hS d_M_isReady_61
  unfold wp_M_isReady at hw
  refine lv_aload_n hx hb d_M_isReady_0 rfl (lv_at hl 0 rfl) ?_
  refine lv_iload_n hx hb d_M_isReady_1 rfl (lv_at hl 1 rfl) ?_
  refine aft_i (va_runV (As := [.int x1]) (rest := []) ⟨hx, hb, hml, hown, hts⟩ (c_M_waits l D a cI cZ _ g x1 _ hw) ⟨(callB_of 1 hts good_M_waits rfl rfl rfl (hts _ tb_6) (hts _ tb_439) hd_M_waits ⟨Nat.le_of_ble_eq_true rfl, Nat.le_of_ble_eq_true rfl⟩), hts _ tb_441, hts _ ts_29⟩ (preV 0 5 hP hD hK hN rfl rfl) rfl rfl hl.1 rfl (lv_room (Nat.le_of_ble_eq_true rfl)) d_M_isReady_2 ⟨Nat.zero_le _, Nat.zero_le _⟩) hD hS hA hK (fun r2 u2 H locs hw hP hD hS => ?_)
  refine lv_if_ne (tgt := 10) hx hb d_M_isReady_5 (by decide) (fun hc => ?_) (fun hc => ?_)
  · replace hw := hw.1 hc
    refine lv_iconst (v := 0) hx hb d_M_isReady_10 (by decide) ?_
    refine lv_istore_n (lv' := [(2, .int 0), (0, .ref (a 0)), (1, .int x1)]) hx hb d_M_isReady_11 rfl hl (by decide) rfl (fun ls hl => ?_)
    obtain ⟨n, hw⟩ := hw
    exact k_12 n u2 x1 0 _ _ _ hP hD hS (lv_sub hl [1, 2, 0] rfl) hw
  · replace hw := hw.2 hc
    refine lv_iconst (v := 0) hx hb d_M_isReady_8 (by decide) ?_
    exact hret _ _ _ _ _ _ rfl hw hP hD hS d_M_isReady_9
