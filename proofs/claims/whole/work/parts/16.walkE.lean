set_option maxHeartbeats 4000000 in
set_option maxRecDepth 100000 in
theorem c_E_pick (l : Launch) (D : va_G) (a : Nat → Nat) (cI cZ : ClassId) (sz : Nat) (g : St) (Q : Int32 → St → Prop) (hw : wp_E_pick g Q) : MT_i l y_E_pick b_E_pick 3 rm_E_pick (wE a cI cZ) D (ty_ cI cZ) sz g [.ref (a 0)] Q := by
  refine MTi_of (by decide +kernel) (Nat.le_of_ble_eq_true rfl) ?_
  intro p e s m args below meth c A Qt ls hx hb hml hts hown hN hK hP hD hA hl hret
  have hS : va_S A s.heap s.heap [] := va_S.rf
  have hl : lv_has ls 3 [(0, .ref (a 0))] := hl
  have k_77 : ∀ (g : St) (x1 : Int32) (x2 : Int32) (H : Heap) (locs : List Loc) (ls : Array Slot), va_P D cls_ (wE a cI cZ g) H → va_D A (wE a cI cZ g) → va_S A s.heap H locs → lv_has ls 3 [(0, .ref (a 0)), (1, .int x1), (2, .int x2)] → wb_E_pick_77 Q g x1 x2 → W p l e rm_E_pick s m args below meth c H locs 0 0 Qt (F0 m 77 ls []) := by
    intro g x1 x2 H locs ls hP hD hS hl hw
    unfold wb_E_pick_77 at hw
    refine lv_aload_n hx hb d_E_pick_77 rfl (lv_at hl 0 rfl) ?_
    refine va_get (D := D) (ci := 4) (C := R_E) (T := F_E) (N := 11) hx hb hts in_E hown hK hP 0 rfl rfl 4 (by decide) (hts _ tb_132) (fun _ h9 => h9) rfl d_E_pick_78 ?_
    refine lv_iload_n hx hb d_E_pick_81 rfl (lv_at hl 1 rfl) ?_
    refine lv_iload_n hx hb d_E_pick_82 rfl (lv_at hl 2 rfl) ?_
    refine aft_v (va_runVN (As := [.int x1, .int x2]) (rest := []) ⟨hx, hb, hml, hown, hts⟩ (c_B_begin l D a cI cZ _ g x1 x2 _ hw) ⟨(va_cnB 2 hts good_B_begin rfl rfl rfl (hN _ tn_281) (hts _ tb_5) hd_B_begin ⟨Nat.le_of_ble_eq_true rfl, Nat.le_of_ble_eq_true rfl⟩), hts _ tb_283, hts _ ts_20⟩ (preV 19 0 hP hD hK hN rfl rfl) rfl rfl hl.1 rfl (lv_room (Nat.le_of_ble_eq_true rfl)) d_E_pick_83 ⟨Nat.zero_le _, Nat.zero_le _⟩) hD hS hA hK (fun u83 H locs hw hP hD hS => ?_)
    refine lv_aload_n hx hb d_E_pick_86 rfl (lv_at hl 0 rfl) ?_
    refine lv_aload_n hx hb d_E_pick_87 rfl (lv_at hl 0 rfl) ?_
    refine va_get (D := D) (ci := 4) (C := R_E) (T := F_E) (N := 11) hx hb hts in_E hown hK hP 0 rfl rfl 4 (by decide) (hts _ tb_132) (fun _ h9 => h9) rfl d_E_pick_88 ?_
    refine va_getN (D := D) (ci := 0) (C := R_B) (T := F_B) (N := 3) hx hb hts in_B hown hK hP 19 rfl rfl 0 (by decide) (va_Nw.use rfl (hN _ tn_116)) (fun _ h9 => h9) rfl d_E_pick_91 ?_
    refine aft_i (va_runV (As := [.int (u83.2.1 2)]) (rest := []) ⟨hx, hb, hml, hown, hts⟩ (c_E_firstOfBatch l D a cI cZ _ u83 (u83.2.1 2) _ hw) ⟨(callB_of 1 hts good_E_firstOfBatch rfl rfl rfl (hts _ tb_1) (hts _ tb_285) hd_E_firstOfBatch ⟨Nat.le_of_ble_eq_true rfl, Nat.le_of_ble_eq_true rfl⟩), hts _ tb_287, hts _ ts_21⟩ (preV 0 4 hP hD hK hN rfl rfl) rfl rfl hl.1 rfl (lv_room (Nat.le_of_ble_eq_true rfl)) d_E_pick_94 ⟨Nat.zero_le _, Nat.zero_le _⟩) hD hS hA hK (fun r94 u94 H locs hw hP hD hS => ?_)
    exact hret _ _ _ _ _ _ hw hP hD hS d_E_pick_97
  have k_49 : ∀ (g : St) (H : Heap) (locs : List Loc) (ls : Array Slot), va_P D cls_ (wE a cI cZ g) H → va_D A (wE a cI cZ g) → va_S A s.heap H locs → lv_has ls 3 [(0, .ref (a 0))] → wb_E_pick_49 Q g → W p l e rm_E_pick s m args below meth c H locs 0 0 Qt (F0 m 49 ls []) := by
    intro g H locs ls hP hD hS hl hw
    unfold wb_E_pick_49 at hw
    refine lv_aload_n hx hb d_E_pick_49 rfl (lv_at hl 0 rfl) ?_
    refine va_get (D := D) (ci := 4) (C := R_E) (T := F_E) (N := 11) hx hb hts in_E hown hK hP 0 rfl rfl 2 (by decide) (hts _ tb_130) (fun _ h9 => h9) rfl d_E_pick_50 ?_
    refine lv_iconst (v := 0) hx hb d_E_pick_53 (by decide) ?_
    refine aft_i (va_runVN (As := [.int 0]) (rest := []) ⟨hx, hb, hml, hown, hts⟩ (c_R_hasReady l D a cI cZ _ g 0 _ hw) ⟨(va_cnB 1 hts good_R_hasReady rfl rfl rfl (hN _ tn_276) (hts _ tb_3) hd_R_hasReady ⟨Nat.le_of_ble_eq_true rfl, Nat.le_of_ble_eq_true rfl⟩), hts _ tb_278, hts _ ts_19⟩ (preV 9 3 hP hD hK hN rfl rfl) rfl rfl hl.1 rfl (lv_room (Nat.le_of_ble_eq_true rfl)) d_E_pick_54 ⟨Nat.zero_le _, Nat.zero_le _⟩) hD hS hA hK (fun r54 u54 H locs hw hP hD hS => ?_)
    refine lv_istore_n (lv' := [(1, .int r54), (0, .ref (a 0))]) hx hb d_E_pick_57 rfl hl (by decide) rfl (fun ls hl => ?_)
    refine lv_aload_n hx hb d_E_pick_58 rfl (lv_at hl 1 rfl) ?_
    refine va_get (D := D) (ci := 4) (C := R_E) (T := F_E) (N := 11) hx hb hts in_E hown hK hP 0 rfl rfl 2 (by decide) (hts _ tb_130) (fun _ h9 => h9) rfl d_E_pick_59 ?_
    refine lv_iconst (v := 1) hx hb d_E_pick_62 (by decide) ?_
    refine aft_i (va_runVN (As := [.int 1]) (rest := []) ⟨hx, hb, hml, hown, hts⟩ (c_R_hasReady l D a cI cZ _ u54 1 _ hw) ⟨(va_cnB 1 hts good_R_hasReady rfl rfl rfl (hN _ tn_276) (hts _ tb_3) hd_R_hasReady ⟨Nat.le_of_ble_eq_true rfl, Nat.le_of_ble_eq_true rfl⟩), hts _ tb_278, hts _ ts_19⟩ (preV 9 3 hP hD hK hN rfl rfl) rfl rfl hl.1 rfl (lv_room (Nat.le_of_ble_eq_true rfl)) d_E_pick_63 ⟨Nat.zero_le _, Nat.zero_le _⟩) hD hS hA hK (fun r63 u63 H locs hw hP hD hS => ?_)
    refine lv_istore_n (lv' := [(2, .int r63), (1, .int r54), (0, .ref (a 0))]) hx hb d_E_pick_66 rfl hl (by decide) rfl (fun ls hl => ?_)
    refine lv_iload_n hx hb d_E_pick_67 rfl (lv_at hl 1 rfl) ?_
    refine lv_if_ne (tgt := 77) hx hb d_E_pick_68 (by decide) (fun hc => ?_) (fun hc => ?_)
    · replace hw := hw.1 hc
      exact k_77 u63 r54 r63 _ _ _ hP hD hS (lv_sub hl [2, 1, 0] rfl) hw
    · replace hw := hw.2 hc
      refine lv_iload_n hx hb d_E_pick_71 rfl (lv_at hl 0 rfl) ?_
      refine lv_if_ne (tgt := 77) hx hb d_E_pick_72 (by decide) (fun hc => ?_) (fun hc => ?_)
      · replace hw := hw.1 hc
        exact k_77 u63 r54 r63 _ _ _ hP hD hS (lv_sub hl [2, 1, 0] rfl) hw
      · replace hw := hw.2 hc
        refine lv_iconst (v := (-1)) hx hb d_E_pick_75 (by decide) ?_
        exact hret _ _ _ _ _ _ hw hP hD hS d_E_pick_76
  unfold wp_E_pick at hw
  refine lv_aload_n hx hb d_E_pick_0 rfl (lv_at hl 0 rfl) ?_
  refine va_get (D := D) (ci := 4) (C := R_E) (T := F_E) (N := 11) hx hb hts in_E hown hK hP 0 rfl rfl 4 (by decide) (hts _ tb_132) (fun _ h9 => h9) rfl d_E_pick_1 ?_
  refine aft_i (va_runVN (As := []) (rest := []) ⟨hx, hb, hml, hown, hts⟩ (c_B_mayGoOn l D a cI cZ _ g _ hw) ⟨(va_cnB 0 hts good_B_mayGoOn rfl rfl rfl (hN _ tn_264) (hts _ tb_5) hd_B_mayGoOn ⟨Nat.le_of_ble_eq_true rfl, Nat.le_of_ble_eq_true rfl⟩), hts _ tb_266, hts _ ts_16⟩ (preV 19 0 hP hD hK hN rfl rfl) rfl rfl hl.1 rfl (lv_room (Nat.le_of_ble_eq_true rfl)) d_E_pick_4 ⟨Nat.zero_le _, Nat.zero_le _⟩) hD hS hA hK (fun r4 u4 H locs hw hP hD hS => ?_)
  refine lv_if_eq (tgt := 49) hx hb d_E_pick_7 (by decide) (fun hc => ?_) (fun hc => ?_)
  · replace hw := hw.1 hc
    exact k_49 u4 _ _ _ hP hD hS (lv_sub hl [0] rfl) hw
  · replace hw := hw.2 hc
    refine lv_aload_n hx hb d_E_pick_10 rfl (lv_at hl 0 rfl) ?_
    refine va_get (D := D) (ci := 4) (C := R_E) (T := F_E) (N := 11) hx hb hts in_E hown hK hP 0 rfl rfl 2 (by decide) (hts _ tb_130) (fun _ h9 => h9) rfl d_E_pick_11 ?_
    refine lv_aload_n hx hb d_E_pick_14 rfl (lv_at hl 0 rfl) ?_
    refine va_get (D := D) (ci := 4) (C := R_E) (T := F_E) (N := 11) hx hb hts in_E hown hK hP 0 rfl rfl 4 (by decide) (hts _ tb_132) (fun _ h9 => h9) rfl d_E_pick_15 ?_
    refine va_getN (D := D) (ci := 0) (C := R_B) (T := F_B) (N := 3) hx hb hts in_B hown hK hP 19 rfl rfl 0 (by decide) (va_Nw.use rfl (hN _ tn_116)) (fun _ h9 => h9) rfl d_E_pick_18 ?_
    refine lv_aload_n hx hb d_E_pick_21 rfl (lv_at hl 0 rfl) ?_
    refine va_get (D := D) (ci := 4) (C := R_E) (T := F_E) (N := 11) hx hb hts in_E hown hK hP 0 rfl rfl 9 (by decide) (hts _ tb_137) (fun _ h9 => h9) rfl d_E_pick_22 ?_
    refine aft_i (va_runVN (As := [.int (u4.2.1 2), .int (u4.2.1 9)]) (rest := []) ⟨hx, hb, hml, hown, hts⟩ (c_R_leastStart l D a cI cZ _ u4 (u4.2.1 2) (u4.2.1 9) _ hw) ⟨(va_cnB 2 hts good_R_leastStart rfl rfl rfl (hN _ tn_268) (hts _ tb_3) hd_R_leastStart ⟨Nat.le_of_ble_eq_true rfl, Nat.le_of_ble_eq_true rfl⟩), hts _ tb_270, hts _ ts_17⟩ (preV 9 3 hP hD hK hN rfl rfl) rfl rfl hl.1 rfl (lv_room (Nat.le_of_ble_eq_true rfl)) d_E_pick_25 ⟨Nat.zero_le _, Nat.zero_le _⟩) hD hS hA hK (fun r25 u25 H locs hw hP hD hS => ?_)
    refine lv_istore_n (lv' := [(1, .int r25), (0, .ref (a 0))]) hx hb d_E_pick_28 rfl hl (by decide) rfl (fun ls hl => ?_)
    refine lv_iload_n hx hb d_E_pick_29 rfl (lv_at hl 0 rfl) ?_
    refine lv_iconst (v := (-1)) hx hb d_E_pick_30 (by decide) ?_
    refine lv_icmp_eq (tgt := 49) hx hb d_E_pick_31 (by decide) (fun hc => ?_) (fun hc => ?_)
    · replace hw := hw.1 hc
      exact k_49 u25 _ _ _ hP hD hS (lv_sub hl [1] rfl) hw
    · replace hw := hw.2 hc
      refine lv_aload_n hx hb d_E_pick_34 rfl (lv_at hl 1 rfl) ?_
      refine va_get (D := D) (ci := 4) (C := R_E) (T := F_E) (N := 11) hx hb hts in_E hown hK hP 0 rfl rfl 4 (by decide) (hts _ tb_132) (fun _ h9 => h9) rfl d_E_pick_35 ?_
      refine lv_dup hx hb d_E_pick_38 rfl ?_
      refine va_getN (D := D) (ci := 0) (C := R_B) (T := F_B) (N := 3) hx hb hts in_B hown hK hP 19 rfl rfl 1 (by decide) (va_Nw.use rfl (hN _ tn_118)) (fun _ h9 => h9) rfl d_E_pick_39 ?_
      refine lv_iconst (v := 1) hx hb d_E_pick_42 (by decide) ?_
      refine lv_iadd hx hb d_E_pick_43 ?_
      refine va_putN (v := .int ((u25.2.1 3) + 1)) (ty := .int) (D := D) (ci := 0) (C := R_B) (T := F_B) (N := 3) hx hb hts in_B t_B t_B_ok n_B hown hK hP hD hS 19 rfl rfl 1 (by decide) (va_Nw.use rfl (hN _ tn_118)) (fun _ h9 => h9) rfl (by decide +kernel) rfl rfl (Nat.le_of_ble_eq_true rfl) d_E_pick_44 (fun H locs hP hD hS => ?_)
      have hP : va_P D cls_ (wE a cI cZ (sI u25 3 ((u25.2.1 3) + 1))) H := pI_E_3 (g := u25) (v := (u25.2.1 3) + 1) hP
      have hD : va_D A (wE a cI cZ (sI u25 3 ((u25.2.1 3) + 1))) := dI_E_3 (g := u25) (v := (u25.2.1 3) + 1) hD
      generalize sI u25 3 ((u25.2.1 3) + 1) = g_44 at hw hP hD
      refine lv_iload_n hx hb d_E_pick_47 rfl (lv_at hl 0 rfl) ?_
      exact hret _ _ _ _ _ _ hw hP hD hS d_E_pick_48
set_option maxHeartbeats 4000000 in
set_option maxRecDepth 100000 in
theorem c_E_carryOut (l : Launch) (D : va_G) (a : Nat → Nat) (cI cZ : ClassId) (sz : Nat) (g : St) (x1 : Int32) (Q : St → Prop) (hw : wp_E_carryOut g x1 Q) : MT_v l y_E_carryOut b_E_carryOut 3 rm_E_carryOut (wE a cI cZ) D (ty_ cI cZ) sz g [.ref (a 0), .int x1] Q := by
  refine MTv_of (by decide +kernel) (Nat.le_of_ble_eq_true rfl) ?_
  intro p e s m args below meth c A Qt ls hx hb hml hts hown hN hK hP hD hA hl hret
  have hS : va_S A s.heap s.heap [] := va_S.rf
  have hl : lv_has ls 3 [(0, .ref (a 0)), (1, .int x1)] := hl
  have k_2 : ∀ (n : Nat) (g : St) (x1 : Int32) (x2 : Int32) (H : Heap) (locs : List Loc) (ls : Array Slot), va_P D cls_ (wE a cI cZ g) H → va_D A (wE a cI cZ g) → va_S A s.heap H locs → lv_has ls 3 [(0, .ref (a 0)), (1, .int x1), (2, .int x2)] → wl_E_carryOut_2 Q n g x1 x2 → W p l e rm_E_carryOut s m args below meth c H locs 0 0 Qt (F0 m 2 ls []) := by
    intro n
    induction n with
    | zero => intro g x1 x2 H locs ls hP hD hS hl hw; exact False.elim hw
    | succ n_2 ih_2 =>
      intro g x1 x2 H locs ls hP hD hS hl hw
      unfold wl_E_carryOut_2 at hw
      refine lv_iload_n hx hb d_E_carryOut_2 rfl (lv_at hl 2 rfl) ?_
      refine lv_aload_n hx hb d_E_carryOut_3 rfl (lv_at hl 0 rfl) ?_
      refine va_get (D := D) (ci := 4) (C := R_E) (T := F_E) (N := 11) hx hb hts in_E hown hK hP 0 rfl rfl 1 (by decide) (hts _ tb_129) (fun _ h9 => h9) rfl d_E_carryOut_4 ?_
      refine va_getN (D := D) (ci := 2) (C := R_P) (T := F_P) (N := 7) hx hb hts in_P hown hK hP 2 rfl rfl 6 (by decide) (va_Nw.use rfl (hN _ tn_35)) (fun _ h9 => h9) rfl d_E_carryOut_7 ?_
      refine lv_icmp_ge (tgt := 44) hx hb d_E_carryOut_10 (by decide) (fun hc => ?_) (fun hc => ?_)
      · replace hw := hw.1 hc
        refine lv_aload_n hx hb d_E_carryOut_44 rfl (lv_at hl 0 rfl) ?_
        refine va_get (D := D) (ci := 4) (C := R_E) (T := F_E) (N := 11) hx hb hts in_E hown hK hP 0 rfl rfl 2 (by decide) (hts _ tb_130) (fun _ h9 => h9) rfl d_E_carryOut_45 ?_
        refine lv_iload_n hx hb d_E_carryOut_48 rfl (lv_at hl 1 rfl) ?_
        refine aft_v (va_runVN (As := [.int x1]) (rest := []) ⟨hx, hb, hml, hown, hts⟩ (c_R_remove l D a cI cZ _ g x1 _ hw) ⟨(va_cnB 1 hts good_R_remove rfl rfl rfl (hN _ tn_304) (hts _ tb_3) hd_R_remove ⟨Nat.le_of_ble_eq_true rfl, Nat.le_of_ble_eq_true rfl⟩), hts _ tb_306, hts _ ts_25⟩ (preV 9 3 hP hD hK hN rfl rfl) rfl rfl hl.1 rfl (lv_room (Nat.le_of_ble_eq_true rfl)) d_E_carryOut_49 ⟨Nat.zero_le _, Nat.zero_le _⟩) hD hS hA hK (fun u49 H locs hw hP hD hS => ?_)
        refine lv_aload_n hx hb d_E_carryOut_52 rfl (lv_at hl 0 rfl) ?_
        refine lv_aload_n hx hb d_E_carryOut_53 rfl (lv_at hl 0 rfl) ?_
        refine va_get (D := D) (ci := 4) (C := R_E) (T := F_E) (N := 11) hx hb hts in_E hown hK hP 0 rfl rfl 2 (by decide) (hts _ tb_130) (fun _ h9 => h9) rfl d_E_carryOut_54 ?_
        refine lv_iload_n hx hb d_E_carryOut_57 rfl (lv_at hl 1 rfl) ?_
        refine aft_i (va_runVN (As := [.int x1]) (rest := [.ref (a 0)]) ⟨hx, hb, hml, hown, hts⟩ (c_R_end l D a cI cZ _ u49 x1 _ hw) ⟨(va_cnB 1 hts good_R_end rfl rfl rfl (hN _ tn_308) (hts _ tb_3) hd_R_end ⟨Nat.le_of_ble_eq_true rfl, Nat.le_of_ble_eq_true rfl⟩), hts _ tb_211, hts _ ts_9⟩ (preV 9 3 hP hD hK hN rfl rfl) rfl rfl hl.1 rfl (lv_room (Nat.le_of_ble_eq_true rfl)) d_E_carryOut_58 ⟨Nat.zero_le _, Nat.zero_le _⟩) hD hS hA hK (fun r58 u58 H locs hw hP hD hS => ?_)
        refine va_put (v := .int r58) (ty := .int) (D := D) (ci := 4) (C := R_E) (T := F_E) (N := 11) hx hb hts in_E t_E t_E_ok n_E hown hK hP hD hS 0 rfl rfl 9 (by decide) (hts _ tb_137) (fun _ h9 => h9) rfl (by decide +kernel) rfl rfl (Nat.le_of_ble_eq_true rfl) d_E_carryOut_61 (fun H locs hP hD hS => ?_)
        have hP : va_P D cls_ (wE a cI cZ (sI u58 9 r58)) H := pI_E_9 (g := u58) (v := r58) hP
        have hD : va_D A (wE a cI cZ (sI u58 9 r58)) := dI_E_9 (g := u58) (v := r58) hD
        generalize sI u58 9 r58 = g_61 at hw hP hD
        refine lv_aload_n hx hb d_E_carryOut_64 rfl (lv_at hl 0 rfl) ?_
        refine lv_iload_n hx hb d_E_carryOut_65 rfl (lv_at hl 1 rfl) ?_
        refine va_put (v := .int x1) (ty := .int) (D := D) (ci := 4) (C := R_E) (T := F_E) (N := 11) hx hb hts in_E t_E t_E_ok n_E hown hK hP hD hS 0 rfl rfl 10 (by decide) (hts _ tb_138) (fun _ h9 => h9) rfl (by decide +kernel) rfl rfl (Nat.le_of_ble_eq_true rfl) d_E_carryOut_66 (fun H locs hP hD hS => ?_)
        have hP : va_P D cls_ (wE a cI cZ (sI g_61 10 x1)) H := pI_E_10 (g := g_61) (v := x1) hP
        have hD : va_D A (wE a cI cZ (sI g_61 10 x1)) := dI_E_10 (g := g_61) (v := x1) hD
        generalize sI g_61 10 x1 = g_66 at hw hP hD
        exact hret _ _ _ _ _ hw hP hD hS d_E_carryOut_69
      · replace hw := hw.2 hc
        refine lv_aload_n hx hb d_E_carryOut_13 rfl (lv_at hl 0 rfl) ?_
        refine va_get (D := D) (ci := 4) (C := R_E) (T := F_E) (N := 11) hx hb hts in_E hown hK hP 0 rfl rfl 1 (by decide) (hts _ tb_129) (fun _ h9 => h9) rfl d_E_carryOut_14 ?_
        refine va_getN (D := D) (ci := 2) (C := R_P) (T := F_P) (N := 7) hx hb hts in_P hown hK hP 2 rfl rfl 3 (by decide) (va_Nw.use rfl (hN _ tn_29)) (fun _ h9 => h9) rfl d_E_carryOut_17 ?_
        refine lv_iload_n hx hb d_E_carryOut_20 rfl (lv_at hl 2 rfl) ?_
        refine va_iald hx hb hK hP 6 0 rfl rfl hw.1 d_E_carryOut_21 ?_
        replace hw := hw.2
        refine lv_iload_n hx hb d_E_carryOut_22 rfl (lv_at hl 1 rfl) ?_
        refine lv_icmp_ne (tgt := 38) hx hb d_E_carryOut_23 (by decide) (fun hc => ?_) (fun hc => ?_)
        · replace hw := hw.1 hc
          refine lv_iinc (k := 2) (v := x2 + 1) (lv' := [(2, .int (x2 + 1)), (0, .ref (a 0)), (1, .int x1)]) hx hb d_E_carryOut_38 hl rfl rfl (by decide) rfl (fun ls hl => ?_)
          refine lv_goto (tgt := 2) hx hb d_E_carryOut_41 (by decide) ?_
          exact ih_2 g x1 (x2 + 1) _ _ _ hP hD hS (lv_sub hl [1, 2, 0] rfl) hw
        · replace hw := hw.2 hc
          refine lv_aload_n hx hb d_E_carryOut_26 rfl (lv_at hl 0 rfl) ?_
          refine va_get (D := D) (ci := 4) (C := R_E) (T := F_E) (N := 11) hx hb hts in_E hown hK hP 0 rfl rfl 1 (by decide) (hts _ tb_129) (fun _ h9 => h9) rfl d_E_carryOut_27 ?_
          refine lv_iload_n hx hb d_E_carryOut_30 rfl (lv_at hl 2 rfl) ?_
          refine lv_aload_n hx hb d_E_carryOut_31 rfl (lv_at hl 0 rfl) ?_
          refine va_get (D := D) (ci := 4) (C := R_E) (T := F_E) (N := 11) hx hb hts in_E hown hK hP 0 rfl rfl 0 (by decide) (hts _ tb_128) (fun _ h9 => h9) rfl d_E_carryOut_32 ?_
          refine aft_v (va_runVN (As := [.int x2, .ref (a 1)]) (rest := []) ⟨hx, hb, hml, hown, hts⟩ (c_P_carryOut l D a cI cZ _ g x2 _ hw) ⟨(va_cnB 2 hts good_P_carryOut rfl rfl rfl (hN _ tn_297) (hts _ tb_2) hd_P_carryOut ⟨Nat.le_of_ble_eq_true rfl, Nat.le_of_ble_eq_true rfl⟩), hts _ tb_299, hts _ ts_24⟩ (preV 2 2 hP hD hK hN rfl rfl) rfl rfl hl.1 rfl (lv_room (Nat.le_of_ble_eq_true rfl)) d_E_carryOut_35 ⟨Nat.zero_le _, Nat.zero_le _⟩) hD hS hA hK (fun u35 H locs hw hP hD hS => ?_)
          refine lv_iinc (k := 2) (v := x2 + 1) (lv' := [(2, .int (x2 + 1)), (0, .ref (a 0)), (1, .int x1)]) hx hb d_E_carryOut_38 hl rfl rfl (by decide) rfl (fun ls hl => ?_)
          refine lv_goto (tgt := 2) hx hb d_E_carryOut_41 (by decide) ?_
          exact ih_2 u35 x1 (x2 + 1) _ _ _ hP hD hS (lv_sub hl [1, 2, 0] rfl) hw
  unfold wp_E_carryOut at hw
  refine lv_iload_n hx hb d_E_carryOut_0 rfl (lv_at hl 1 rfl) ?_
  refine lv_istore_n (lv' := [(2, .int x1), (0, .ref (a 0)), (1, .int x1)]) hx hb d_E_carryOut_1 rfl hl (by decide) rfl (fun ls hl => ?_)
  obtain ⟨n, hw⟩ := hw
  exact k_2 n g x1 x1 _ _ _ hP hD hS (lv_sub hl [1, 2, 0] rfl) hw
set_option maxHeartbeats 4000000 in
set_option maxRecDepth 100000 in
theorem c_E_dispatch (l : Launch) (D : va_G) (a : Nat → Nat) (cI cZ : ClassId) (sz : Nat) (g : St) (Q : Int32 → St → Prop) (hw : wp_E_dispatch g Q) : MT_i l y_E_dispatch b_E_dispatch 2 rm_E_dispatch (wE a cI cZ) D (ty_ cI cZ) sz g [.ref (a 0)] Q := by
  refine MTi_of (by decide +kernel) (Nat.le_of_ble_eq_true rfl) ?_
  intro p e s m args below meth c A Qt ls hx hb hml hts hown hN hK hP hD hA hl hret
  have hS : va_S A s.heap s.heap [] := va_S.rf
  have hl : lv_has ls 2 [(0, .ref (a 0))] := hl
  unfold wp_E_dispatch at hw
  refine lv_aload_n hx hb d_E_dispatch_0 rfl (lv_at hl 0 rfl) ?_
  refine aft_v (va_runV (As := []) (rest := []) ⟨hx, hb, hml, hown, hts⟩ (c_E_markReady l D a cI cZ _ g _ hw) ⟨(callB_of 0 hts good_E_markReady rfl rfl rfl (hts _ tb_1) (hts _ tb_252) hd_E_markReady ⟨Nat.le_of_ble_eq_true rfl, Nat.le_of_ble_eq_true rfl⟩), hts _ tb_254, hts _ ts_13⟩ (preV 0 4 hP hD hK hN rfl rfl) rfl rfl hl.1 rfl (lv_room (Nat.le_of_ble_eq_true rfl)) d_E_dispatch_1 ⟨Nat.zero_le _, Nat.zero_le _⟩) hD hS hA hK (fun u1 H locs hw hP hD hS => ?_)
  refine lv_aload_n hx hb d_E_dispatch_4 rfl (lv_at hl 0 rfl) ?_
  refine aft_i (va_runV (As := []) (rest := []) ⟨hx, hb, hml, hown, hts⟩ (c_E_pick l D a cI cZ _ u1 _ hw) ⟨(callB_of 0 hts good_E_pick rfl rfl rfl (hts _ tb_1) (hts _ tb_260) hd_E_pick ⟨Nat.le_of_ble_eq_true rfl, Nat.le_of_ble_eq_true rfl⟩), hts _ tb_262, hts _ ts_15⟩ (preV 0 4 hP hD hK hN rfl rfl) rfl rfl hl.1 rfl (lv_room (Nat.le_of_ble_eq_true rfl)) d_E_dispatch_5 ⟨Nat.zero_le _, Nat.zero_le _⟩) hD hS hA hK (fun r5 u5 H locs hw hP hD hS => ?_)
  refine lv_istore_n (lv' := [(1, .int r5), (0, .ref (a 0))]) hx hb d_E_dispatch_8 rfl hl (by decide) rfl (fun ls hl => ?_)
  refine lv_iload_n hx hb d_E_dispatch_9 rfl (lv_at hl 0 rfl) ?_
  refine lv_iconst (v := (-1)) hx hb d_E_dispatch_10 (by decide) ?_
  refine lv_icmp_ne (tgt := 16) hx hb d_E_dispatch_11 (by decide) (fun hc => ?_) (fun hc => ?_)
  · replace hw := hw.1 hc
    refine lv_aload_n hx hb d_E_dispatch_16 rfl (lv_at hl 1 rfl) ?_
    refine lv_iload_n hx hb d_E_dispatch_17 rfl (lv_at hl 0 rfl) ?_
    refine aft_v (va_runV (As := [.int r5]) (rest := []) ⟨hx, hb, hml, hown, hts⟩ (c_E_carryOut l D a cI cZ _ u5 r5 _ hw) ⟨(callB_of 1 hts good_E_carryOut rfl rfl rfl (hts _ tb_1) (hts _ tb_293) hd_E_carryOut ⟨Nat.le_of_ble_eq_true rfl, Nat.le_of_ble_eq_true rfl⟩), hts _ tb_295, hts _ ts_23⟩ (preV 0 4 hP hD hK hN rfl rfl) rfl rfl hl.1 rfl (lv_room (Nat.le_of_ble_eq_true rfl)) d_E_dispatch_18 ⟨Nat.zero_le _, Nat.zero_le _⟩) hD hS hA hK (fun u18 H locs hw hP hD hS => ?_)
    refine lv_aload_n hx hb d_E_dispatch_21 rfl (lv_at hl 1 rfl) ?_
    refine va_get (D := D) (ci := 4) (C := R_E) (T := F_E) (N := 11) hx hb hts in_E hown hK hP 0 rfl rfl 2 (by decide) (hts _ tb_130) (fun _ h9 => h9) rfl d_E_dispatch_22 ?_
    refine va_getN (D := D) (ci := 3) (C := R_R) (T := F_R) (N := 9) hx hb hts in_R hown hK hP 9 rfl rfl 3 (by decide) (va_Nw.use rfl (hN _ tn_66)) (fun _ h9 => h9) rfl d_E_dispatch_25 ?_
    refine lv_iload_n hx hb d_E_dispatch_28 rfl (lv_at hl 0 rfl) ?_
    refine va_iald hx hb hK hP 13 0 rfl rfl hw.1 d_E_dispatch_29 ?_
    replace hw := hw.2
    exact hret _ _ _ _ _ _ hw hP hD hS d_E_dispatch_30
  · replace hw := hw.2 hc
    refine lv_iconst (v := 0) hx hb d_E_dispatch_14 (by decide) ?_
    exact hret _ _ _ _ _ _ hw hP hD hS d_E_dispatch_15
set_option maxHeartbeats 4000000 in
set_option maxRecDepth 100000 in
theorem c_E_state (l : Launch) (D : va_G) (a : Nat → Nat) (cI cZ : ClassId) (sz : Nat) (g : St) (x1 : Int32) (Q : Int32 → St → Prop) (hw : wp_E_state g x1 Q) : MT_i l y_E_state b_E_state 2 rm_E_state (wE a cI cZ) D (ty_ cI cZ) sz g [.ref (a 0), .int x1] Q := by
  refine MTi_of (by decide +kernel) (Nat.le_of_ble_eq_true rfl) ?_
  intro p e s m args below meth c A Qt ls hx hb hml hts hown hN hK hP hD hA hl hret
  have hS : va_S A s.heap s.heap [] := va_S.rf
  have hl : lv_has ls 2 [(0, .ref (a 0)), (1, .int x1)] := hl
  unfold wp_E_state at hw
  refine lv_aload_n hx hb d_E_state_0 rfl (lv_at hl 0 rfl) ?_
  refine va_get (D := D) (ci := 4) (C := R_E) (T := F_E) (N := 11) hx hb hts in_E hown hK hP 0 rfl rfl 1 (by decide) (hts _ tb_129) (fun _ h9 => h9) rfl d_E_state_1 ?_
  refine lv_iload_n hx hb d_E_state_4 rfl (lv_at hl 1 rfl) ?_
  refine aft_i (va_runVN (As := [.int x1]) (rest := []) ⟨hx, hb, hml, hown, hts⟩ (c_P_has l D a cI cZ _ g x1 _ hw) ⟨(va_cnB 1 hts good_P_has rfl rfl rfl (hN _ tn_313) (hts _ tb_2) hd_P_has ⟨Nat.le_of_ble_eq_true rfl, Nat.le_of_ble_eq_true rfl⟩), hts _ tb_315, hts _ ts_26⟩ (preV 2 2 hP hD hK hN rfl rfl) rfl rfl hl.1 rfl (lv_room (Nat.le_of_ble_eq_true rfl)) d_E_state_5 ⟨Nat.zero_le _, Nat.zero_le _⟩) hD hS hA hK (fun r5 u5 H locs hw hP hD hS => ?_)
  refine lv_if_ne (tgt := 13) hx hb d_E_state_8 (by decide) (fun hc => ?_) (fun hc => ?_)
  · replace hw := hw.1 hc
    refine lv_aload_n hx hb d_E_state_13 rfl (lv_at hl 0 rfl) ?_
    refine va_get (D := D) (ci := 4) (C := R_E) (T := F_E) (N := 11) hx hb hts in_E hown hK hP 0 rfl rfl 1 (by decide) (hts _ tb_129) (fun _ h9 => h9) rfl d_E_state_14 ?_
    refine va_getN (D := D) (ci := 2) (C := R_P) (T := F_P) (N := 7) hx hb hts in_P hown hK hP 2 rfl rfl 4 (by decide) (va_Nw.use rfl (hN _ tn_31)) (fun _ h9 => h9) rfl d_E_state_17 ?_
    refine lv_iload_n hx hb d_E_state_20 rfl (lv_at hl 1 rfl) ?_
    refine va_zald hx hb hK hP 7 1 rfl rfl hw.1 d_E_state_21 ?_
    replace hw := hw.2
    refine lv_if_eq (tgt := 29) hx hb d_E_state_22 (by decide) (fun hc => ?_) (fun hc => ?_)
    · replace hw := hw.1 hc
      refine lv_iconst (v := 1) hx hb d_E_state_29 (by decide) ?_
      exact hret _ _ _ _ _ _ hw hP hD hS d_E_state_30
    · replace hw := hw.2 hc
      refine lv_iconst (v := 2) hx hb d_E_state_25 (by decide) ?_
      refine lv_goto (tgt := 30) hx hb d_E_state_26 (by decide) ?_
      exact hret _ _ _ _ _ _ hw hP hD hS d_E_state_30
  · replace hw := hw.2 hc
    refine lv_iconst (v := 0) hx hb d_E_state_11 (by decide) ?_
    exact hret _ _ _ _ _ _ hw hP hD hS d_E_state_12
set_option maxHeartbeats 4000000 in
set_option maxRecDepth 100000 in
theorem c_E_value (l : Launch) (D : va_G) (a : Nat → Nat) (cI cZ : ClassId) (sz : Nat) (g : St) (x1 : Int32) (x2 : Int32) (Q : Int32 → St → Prop) (hw : wp_E_value g x1 x2 Q) : MT_i l y_E_value b_E_value 3 rm_E_value (wE a cI cZ) D (ty_ cI cZ) sz g [.ref (a 0), .int x1, .int x2] Q := by
  refine MTi_of (by decide +kernel) (Nat.le_of_ble_eq_true rfl) ?_
  intro p e s m args below meth c A Qt ls hx hb hml hts hown hN hK hP hD hA hl hret
  have hS : va_S A s.heap s.heap [] := va_S.rf
  have hl : lv_has ls 3 [(0, .ref (a 0)), (1, .int x1), (2, .int x2)] := hl
  unfold wp_E_value at hw
  refine lv_aload_n hx hb d_E_value_0 rfl (lv_at hl 0 rfl) ?_
  refine va_get (D := D) (ci := 4) (C := R_E) (T := F_E) (N := 11) hx hb hts in_E hown hK hP 0 rfl rfl 1 (by decide) (hts _ tb_129) (fun _ h9 => h9) rfl d_E_value_1 ?_
  refine lv_iload_n hx hb d_E_value_4 rfl (lv_at hl 1 rfl) ?_
  refine aft_i (va_runVN (As := [.int x1]) (rest := []) ⟨hx, hb, hml, hown, hts⟩ (c_P_has l D a cI cZ _ g x1 _ hw) ⟨(va_cnB 1 hts good_P_has rfl rfl rfl (hN _ tn_313) (hts _ tb_2) hd_P_has ⟨Nat.le_of_ble_eq_true rfl, Nat.le_of_ble_eq_true rfl⟩), hts _ tb_315, hts _ ts_26⟩ (preV 2 2 hP hD hK hN rfl rfl) rfl rfl hl.1 rfl (lv_room (Nat.le_of_ble_eq_true rfl)) d_E_value_5 ⟨Nat.zero_le _, Nat.zero_le _⟩) hD hS hA hK (fun r5 u5 H locs hw hP hD hS => ?_)
  refine lv_if_eq (tgt := 35) hx hb d_E_value_8 (by decide) (fun hc => ?_) (fun hc => ?_)
  · replace hw := hw.1 hc
    refine lv_iconst (v := 0) hx hb d_E_value_35 (by decide) ?_
    exact hret _ _ _ _ _ _ hw hP hD hS d_E_value_36
  · replace hw := hw.2 hc
    refine lv_aload_n hx hb d_E_value_11 rfl (lv_at hl 0 rfl) ?_
    refine va_get (D := D) (ci := 4) (C := R_E) (T := F_E) (N := 11) hx hb hts in_E hown hK hP 0 rfl rfl 1 (by decide) (hts _ tb_129) (fun _ h9 => h9) rfl d_E_value_12 ?_
    refine va_getN (D := D) (ci := 2) (C := R_P) (T := F_P) (N := 7) hx hb hts in_P hown hK hP 2 rfl rfl 4 (by decide) (va_Nw.use rfl (hN _ tn_31)) (fun _ h9 => h9) rfl d_E_value_15 ?_
    refine lv_iload_n hx hb d_E_value_18 rfl (lv_at hl 1 rfl) ?_
    refine va_zald hx hb hK hP 7 1 rfl rfl hw.1 d_E_value_19 ?_
    replace hw := hw.2
    refine lv_if_eq (tgt := 35) hx hb d_E_value_20 (by decide) (fun hc => ?_) (fun hc => ?_)
    · replace hw := hw.1 hc
      refine lv_iconst (v := 0) hx hb d_E_value_35 (by decide) ?_
      exact hret _ _ _ _ _ _ hw hP hD hS d_E_value_36
    · replace hw := hw.2 hc
      refine lv_aload_n hx hb d_E_value_23 rfl (lv_at hl 0 rfl) ?_
      refine va_get (D := D) (ci := 4) (C := R_E) (T := F_E) (N := 11) hx hb hts in_E hown hK hP 0 rfl rfl 1 (by decide) (hts _ tb_129) (fun _ h9 => h9) rfl d_E_value_24 ?_
      refine va_getN (D := D) (ci := 2) (C := R_P) (T := F_P) (N := 7) hx hb hts in_P hown hK hP 2 rfl rfl 0 (by decide) (va_Nw.use rfl (hN _ tn_24)) (fun _ h9 => h9) rfl d_E_value_27 ?_
      refine lv_iload_n hx hb d_E_value_30 rfl (lv_at hl 1 rfl) ?_
      refine va_iald hx hb hK hP 3 0 rfl rfl hw.1 d_E_value_31 ?_
      replace hw := hw.2
      refine lv_if_eq (tgt := 37) hx hb d_E_value_32 (by decide) (fun hc => ?_) (fun hc => ?_)
      · replace hw := hw.1 hc
        refine lv_iload_n hx hb d_E_value_37 rfl (lv_at hl 2 rfl) ?_
        refine lv_if_lt (tgt := 54) hx hb d_E_value_38 (by decide) (fun hc => ?_) (fun hc => ?_)
        · replace hw := hw.1 hc
          refine lv_iconst (v := 0) hx hb d_E_value_54 (by decide) ?_
          exact hret _ _ _ _ _ _ hw hP hD hS d_E_value_55
        · replace hw := hw.2 hc
          refine lv_iload_n hx hb d_E_value_41 rfl (lv_at hl 2 rfl) ?_
          refine lv_aload_n hx hb d_E_value_42 rfl (lv_at hl 0 rfl) ?_
          refine va_get (D := D) (ci := 4) (C := R_E) (T := F_E) (N := 11) hx hb hts in_E hown hK hP 0 rfl rfl 1 (by decide) (hts _ tb_129) (fun _ h9 => h9) rfl d_E_value_43 ?_
          refine va_getN (D := D) (ci := 2) (C := R_P) (T := F_P) (N := 7) hx hb hts in_P hown hK hP 2 rfl rfl 2 (by decide) (va_Nw.use rfl (hN _ tn_27)) (fun _ h9 => h9) rfl d_E_value_46 ?_
          refine lv_iload_n hx hb d_E_value_49 rfl (lv_at hl 1 rfl) ?_
          refine va_iald hx hb hK hP 5 0 rfl rfl hw.1 d_E_value_50 ?_
          replace hw := hw.2
          refine lv_icmp_lt (tgt := 56) hx hb d_E_value_51 (by decide) (fun hc => ?_) (fun hc => ?_)
          · replace hw := hw.1 hc
            refine lv_aload_n hx hb d_E_value_56 rfl (lv_at hl 0 rfl) ?_
            refine va_get (D := D) (ci := 4) (C := R_E) (T := F_E) (N := 11) hx hb hts in_E hown hK hP 0 rfl rfl 1 (by decide) (hts _ tb_129) (fun _ h9 => h9) rfl d_E_value_57 ?_
            refine va_getN (D := D) (ci := 2) (C := R_P) (T := F_P) (N := 7) hx hb hts in_P hown hK hP 2 rfl rfl 5 (by decide) (va_Nw.use rfl (hN _ tn_33)) (fun _ h9 => h9) rfl d_E_value_60 ?_
            refine lv_iload_n hx hb d_E_value_63 rfl (lv_at hl 1 rfl) ?_
            refine lv_bipush (v := 8) hx hb d_E_value_64 (by decide) ?_
            refine lv_imul hx hb d_E_value_66 ?_
            refine lv_iload_n hx hb d_E_value_67 rfl (lv_at hl 2 rfl) ?_
            refine lv_iadd hx hb d_E_value_68 ?_
            refine va_iald hx hb hK hP 8 0 rfl rfl hw.1 d_E_value_69 ?_
            replace hw := hw.2
            exact hret _ _ _ _ _ _ hw hP hD hS d_E_value_70
          · replace hw := hw.2 hc
            refine lv_iconst (v := 0) hx hb d_E_value_54 (by decide) ?_
            exact hret _ _ _ _ _ _ hw hP hD hS d_E_value_55
      · replace hw := hw.2 hc
        refine lv_iconst (v := 0) hx hb d_E_value_35 (by decide) ?_
        exact hret _ _ _ _ _ _ hw hP hD hS d_E_value_36
set_option maxHeartbeats 4000000 in
set_option maxRecDepth 100000 in
theorem c_E_sector (l : Launch) (D : va_G) (a : Nat → Nat) (cI cZ : ClassId) (sz : Nat) (g : St) (x1 : Int32) (Q : Int32 → St → Prop) (hw : wp_E_sector g x1 Q) : MT_i l y_E_sector b_E_sector 2 rm_E_sector (wE a cI cZ) D (ty_ cI cZ) sz g [.ref (a 0), .int x1] Q := by
  refine MTi_of (by decide +kernel) (Nat.le_of_ble_eq_true rfl) ?_
  intro p e s m args below meth c A Qt ls hx hb hml hts hown hN hK hP hD hA hl hret
  have hS : va_S A s.heap s.heap [] := va_S.rf
  have hl : lv_has ls 2 [(0, .ref (a 0)), (1, .int x1)] := hl
  unfold wp_E_sector at hw
  refine lv_iload_n hx hb d_E_sector_0 rfl (lv_at hl 1 rfl) ?_
  refine lv_bipush (v := 63) hx hb d_E_sector_1 (by decide) ?_
  refine aft_i (va_runS (As := [.int x1, .int 63]) (rest := []) ⟨hx, hb, hml, hown, hts⟩ (c_E_isWithin l D a cI cZ _ g x1 63 _ hw) ⟨(callB_of 2 hts good_E_isWithin rfl rfl rfl (hts _ tb_1) (hts _ tb_240) hd_E_isWithin ⟨Nat.le_of_ble_eq_true rfl, Nat.le_of_ble_eq_true rfl⟩), (hts _ tb_241)⟩ (preS hP hD hK hN) rfl rfl hl.1 rfl (lv_room (Nat.le_of_ble_eq_true rfl)) d_E_sector_3 ⟨Nat.zero_le _, Nat.zero_le _⟩) hD hS hA hK (fun r3 u3 H locs hw hP hD hS => ?_)
  refine lv_if_eq (tgt := 18) hx hb d_E_sector_6 (by decide) (fun hc => ?_) (fun hc => ?_)
  · replace hw := hw.1 hc
    refine lv_iconst (v := 0) hx hb d_E_sector_18 (by decide) ?_
    exact hret _ _ _ _ _ _ hw hP hD hS d_E_sector_19
  · replace hw := hw.2 hc
    refine lv_aload_n hx hb d_E_sector_9 rfl (lv_at hl 0 rfl) ?_
    refine va_get (D := D) (ci := 4) (C := R_E) (T := F_E) (N := 11) hx hb hts in_E hown hK hP 0 rfl rfl 0 (by decide) (hts _ tb_128) (fun _ h9 => h9) rfl d_E_sector_10 ?_
    refine lv_iload_n hx hb d_E_sector_13 rfl (lv_at hl 1 rfl) ?_
    refine va_iald hx hb hK hP 1 0 rfl rfl hw.1 d_E_sector_14 ?_
    replace hw := hw.2
    refine lv_goto (tgt := 19) hx hb d_E_sector_15 (by decide) ?_
    exact hret _ _ _ _ _ _ hw hP hD hS d_E_sector_19
set_option maxHeartbeats 4000000 in
set_option maxRecDepth 100000 in
theorem c_E_waiting (l : Launch) (D : va_G) (a : Nat → Nat) (cI cZ : ClassId) (sz : Nat) (g : St) (x1 : Int32) (Q : Int32 → St → Prop) (hw : wp_E_waiting g x1 Q) : MT_i l y_E_waiting b_E_waiting 4 rm_E_waiting (wE a cI cZ) D (ty_ cI cZ) sz g [.ref (a 0), .int x1] Q := by
  refine MTi_of (by decide +kernel) (Nat.le_of_ble_eq_true rfl) ?_
  intro p e s m args below meth c A Qt ls hx hb hml hts hown hN hK hP hD hA hl hret
  have hS : va_S A s.heap s.heap [] := va_S.rf
  have hl : lv_has ls 4 [(0, .ref (a 0)), (1, .int x1)] := hl
  have k_14 : ∀ (n : Nat) (g : St) (x1 : Int32) (x2 : Int32) (x3 : Int32) (H : Heap) (locs : List Loc) (ls : Array Slot), va_P D cls_ (wE a cI cZ g) H → va_D A (wE a cI cZ g) → va_S A s.heap H locs → lv_has ls 4 [(0, .ref (a 0)), (1, .int x1), (2, .int x2), (3, .int x3)] → wl_E_waiting_14 Q n g x1 x2 x3 → W p l e rm_E_waiting s m args below meth c H locs 0 0 Qt (F0 m 14 ls []) := by
    intro n
    induction n with
    | zero => intro g x1 x2 x3 H locs ls hP hD hS hl hw; exact False.elim hw
    | succ n_14 ih_14 =>
      intro g x1 x2 x3 H locs ls hP hD hS hl hw
      unfold wl_E_waiting_14 at hw
      refine lv_iload_n hx hb d_E_waiting_14 rfl (lv_at hl 3 rfl) ?_
      refine lv_aload_n hx hb d_E_waiting_15 rfl (lv_at hl 0 rfl) ?_
      refine va_get (D := D) (ci := 4) (C := R_E) (T := F_E) (N := 11) hx hb hts in_E hown hK hP 0 rfl rfl 2 (by decide) (hts _ tb_130) (fun _ h9 => h9) rfl d_E_waiting_16 ?_
      refine va_getN (D := D) (ci := 3) (C := R_R) (T := F_R) (N := 9) hx hb hts in_R hown hK hP 9 rfl rfl 8 (by decide) (va_Nw.use rfl (hN _ tn_76)) (fun _ h9 => h9) rfl d_E_waiting_19 ?_
      refine lv_icmp_ge (tgt := 55) hx hb d_E_waiting_22 (by decide) (fun hc => ?_) (fun hc => ?_)
      · replace hw := hw.1 hc
        refine lv_iload_n hx hb d_E_waiting_55 rfl (lv_at hl 2 rfl) ?_
        exact hret _ _ _ _ _ _ hw hP hD hS d_E_waiting_56
      · replace hw := hw.2 hc
        refine lv_aload_n hx hb d_E_waiting_25 rfl (lv_at hl 0 rfl) ?_
        refine va_get (D := D) (ci := 4) (C := R_E) (T := F_E) (N := 11) hx hb hts in_E hown hK hP 0 rfl rfl 2 (by decide) (hts _ tb_130) (fun _ h9 => h9) rfl d_E_waiting_26 ?_
        refine va_getN (D := D) (ci := 3) (C := R_R) (T := F_R) (N := 9) hx hb hts in_R hown hK hP 9 rfl rfl 0 (by decide) (va_Nw.use rfl (hN _ tn_60)) (fun _ h9 => h9) rfl d_E_waiting_29 ?_
        refine lv_aload_n hx hb d_E_waiting_32 rfl (lv_at hl 0 rfl) ?_
        refine va_get (D := D) (ci := 4) (C := R_E) (T := F_E) (N := 11) hx hb hts in_E hown hK hP 0 rfl rfl 2 (by decide) (hts _ tb_130) (fun _ h9 => h9) rfl d_E_waiting_33 ?_
        refine va_getN (D := D) (ci := 3) (C := R_R) (T := F_R) (N := 9) hx hb hts in_R hown hK hP 9 rfl rfl 7 (by decide) (va_Nw.use rfl (hN _ tn_74)) (fun _ h9 => h9) rfl d_E_waiting_36 ?_
        refine lv_iload_n hx hb d_E_waiting_39 rfl (lv_at hl 3 rfl) ?_
        refine va_iald hx hb hK hP 17 0 rfl rfl hw.1 d_E_waiting_40 ?_
        replace hw := hw.2
        refine va_iald hx hb hK hP 10 0 rfl rfl hw.1 d_E_waiting_41 ?_
        replace hw := hw.2
        refine lv_iload_n hx hb d_E_waiting_42 rfl (lv_at hl 1 rfl) ?_
        refine lv_icmp_ne (tgt := 49) hx hb d_E_waiting_43 (by decide) (fun hc => ?_) (fun hc => ?_)
        · replace hw := hw.1 hc
          refine lv_iinc (k := 3) (v := x3 + 1) (lv' := [(3, .int (x3 + 1)), (0, .ref (a 0)), (1, .int x1), (2, .int x2)]) hx hb d_E_waiting_49 hl rfl rfl (by decide) rfl (fun ls hl => ?_)
          refine lv_goto (tgt := 14) hx hb d_E_waiting_52 (by decide) ?_
          exact ih_14 g x1 x2 (x3 + 1) _ _ _ hP hD hS (lv_sub hl [1, 2, 3, 0] rfl) hw
        · replace hw := hw.2 hc
          refine lv_iinc (k := 2) (v := x2 + 1) (lv' := [(2, .int (x2 + 1)), (0, .ref (a 0)), (1, .int x1), (3, .int x3)]) hx hb d_E_waiting_46 hl rfl rfl (by decide) rfl (fun ls hl => ?_)
          refine lv_iinc (k := 3) (v := x3 + 1) (lv' := [(3, .int (x3 + 1)), (2, .int (x2 + 1)), (0, .ref (a 0)), (1, .int x1)]) hx hb d_E_waiting_49 hl rfl rfl (by decide) rfl (fun ls hl => ?_)
          refine lv_goto (tgt := 14) hx hb d_E_waiting_52 (by decide) ?_
          exact ih_14 g x1 (x2 + 1) (x3 + 1) _ _ _ hP hD hS (lv_sub hl [2, 3, 1, 0] rfl) hw
  unfold wp_E_waiting at hw
  refine lv_iload_n hx hb d_E_waiting_0 rfl (lv_at hl 1 rfl) ?_
  refine lv_iconst (v := 1) hx hb d_E_waiting_1 (by decide) ?_
  refine aft_i (va_runS (As := [.int x1, .int 1]) (rest := []) ⟨hx, hb, hml, hown, hts⟩ (c_E_isWithin l D a cI cZ _ g x1 1 _ hw) ⟨(callB_of 2 hts good_E_isWithin rfl rfl rfl (hts _ tb_1) (hts _ tb_240) hd_E_isWithin ⟨Nat.le_of_ble_eq_true rfl, Nat.le_of_ble_eq_true rfl⟩), (hts _ tb_241)⟩ (preS hP hD hK hN) rfl rfl hl.1 rfl (lv_room (Nat.le_of_ble_eq_true rfl)) d_E_waiting_2 ⟨Nat.zero_le _, Nat.zero_le _⟩) hD hS hA hK (fun r2 u2 H locs hw hP hD hS => ?_)
  refine lv_if_ne (tgt := 10) hx hb d_E_waiting_5 (by decide) (fun hc => ?_) (fun hc => ?_)
  · replace hw := hw.1 hc
    refine lv_iconst (v := 0) hx hb d_E_waiting_10 (by decide) ?_
    refine lv_istore_n (lv' := [(2, .int 0), (0, .ref (a 0)), (1, .int x1)]) hx hb d_E_waiting_11 rfl hl (by decide) rfl (fun ls hl => ?_)
    refine lv_iconst (v := 0) hx hb d_E_waiting_12 (by decide) ?_
    refine lv_istore_n (lv' := [(3, .int 0), (2, .int 0), (0, .ref (a 0)), (1, .int x1)]) hx hb d_E_waiting_13 rfl hl (by decide) rfl (fun ls hl => ?_)
    obtain ⟨n, hw⟩ := hw
    exact k_14 n u2 x1 0 0 _ _ _ hP hD hS (lv_sub hl [2, 3, 1, 0] rfl) hw
  · replace hw := hw.2 hc
    refine lv_iconst (v := (-1)) hx hb d_E_waiting_8 (by decide) ?_
    exact hret _ _ _ _ _ _ hw hP hD hS d_E_waiting_9
set_option maxHeartbeats 4000000 in
set_option maxRecDepth 100000 in
theorem c_E_ready (l : Launch) (D : va_G) (a : Nat → Nat) (cI cZ : ClassId) (sz : Nat) (g : St) (x1 : Int32) (Q : Int32 → St → Prop) (hw : wp_E_ready g x1 Q) : MT_i l y_E_ready b_E_ready 4 rm_E_ready (wE a cI cZ) D (ty_ cI cZ) sz g [.ref (a 0), .int x1] Q := by
  refine MTi_of (by decide +kernel) (Nat.le_of_ble_eq_true rfl) ?_
  intro p e s m args below meth c A Qt ls hx hb hml hts hown hN hK hP hD hA hl hret
  have hS : va_S A s.heap s.heap [] := va_S.rf
  have hl : lv_has ls 4 [(0, .ref (a 0)), (1, .int x1)] := hl
  have k_18 : ∀ (n : Nat) (g : St) (x1 : Int32) (x2 : Int32) (x3 : Int32) (H : Heap) (locs : List Loc) (ls : Array Slot), va_P D cls_ (wE a cI cZ g) H → va_D A (wE a cI cZ g) → va_S A s.heap H locs → lv_has ls 4 [(0, .ref (a 0)), (1, .int x1), (2, .int x2), (3, .int x3)] → wl_E_ready_18 Q n g x1 x2 x3 → W p l e rm_E_ready s m args below meth c H locs 0 0 Qt (F0 m 18 ls []) := by
    intro n
    induction n with
    | zero => intro g x1 x2 x3 H locs ls hP hD hS hl hw; exact False.elim hw
    | succ n_18 ih_18 =>
      intro g x1 x2 x3 H locs ls hP hD hS hl hw
      unfold wl_E_ready_18 at hw
      refine lv_iload_n hx hb d_E_ready_18 rfl (lv_at hl 3 rfl) ?_
      refine lv_aload_n hx hb d_E_ready_19 rfl (lv_at hl 0 rfl) ?_
      refine va_get (D := D) (ci := 4) (C := R_E) (T := F_E) (N := 11) hx hb hts in_E hown hK hP 0 rfl rfl 2 (by decide) (hts _ tb_130) (fun _ h9 => h9) rfl d_E_ready_20 ?_
      refine va_getN (D := D) (ci := 3) (C := R_R) (T := F_R) (N := 9) hx hb hts in_R hown hK hP 9 rfl rfl 8 (by decide) (va_Nw.use rfl (hN _ tn_76)) (fun _ h9 => h9) rfl d_E_ready_23 ?_
      refine lv_icmp_ge (tgt := 58) hx hb d_E_ready_26 (by decide) (fun hc => ?_) (fun hc => ?_)
      · replace hw := hw.1 hc
        refine lv_iload_n hx hb d_E_ready_58 rfl (lv_at hl 2 rfl) ?_
        exact hret _ _ _ _ _ _ hw hP hD hS d_E_ready_59
      · replace hw := hw.2 hc
        refine lv_aload_n hx hb d_E_ready_29 rfl (lv_at hl 0 rfl) ?_
        refine va_get (D := D) (ci := 4) (C := R_E) (T := F_E) (N := 11) hx hb hts in_E hown hK hP 0 rfl rfl 2 (by decide) (hts _ tb_130) (fun _ h9 => h9) rfl d_E_ready_30 ?_
        refine lv_aload_n hx hb d_E_ready_33 rfl (lv_at hl 0 rfl) ?_
        refine va_get (D := D) (ci := 4) (C := R_E) (T := F_E) (N := 11) hx hb hts in_E hown hK hP 0 rfl rfl 2 (by decide) (hts _ tb_130) (fun _ h9 => h9) rfl d_E_ready_34 ?_
        refine va_getN (D := D) (ci := 3) (C := R_R) (T := F_R) (N := 9) hx hb hts in_R hown hK hP 9 rfl rfl 7 (by decide) (va_Nw.use rfl (hN _ tn_74)) (fun _ h9 => h9) rfl d_E_ready_37 ?_
        refine lv_iload_n hx hb d_E_ready_40 rfl (lv_at hl 3 rfl) ?_
        refine va_iald hx hb hK hP 17 0 rfl rfl hw.1 d_E_ready_41 ?_
        replace hw := hw.2
        refine lv_iload_n hx hb d_E_ready_42 rfl (lv_at hl 1 rfl) ?_
        refine aft_i (va_runVN (As := [.int (g.1 14 x3.toNatClampNeg), .int x1]) (rest := []) ⟨hx, hb, hml, hown, hts⟩ (c_R_isReady l D a cI cZ _ g (g.1 14 x3.toNatClampNeg) x1 _ hw) ⟨(va_cnB 2 hts good_R_isReady rfl rfl rfl (hN _ tn_333) (hts _ tb_3) hd_R_isReady ⟨Nat.le_of_ble_eq_true rfl, Nat.le_of_ble_eq_true rfl⟩), hts _ tb_274, hts _ ts_18⟩ (preV 9 3 hP hD hK hN rfl rfl) rfl rfl hl.1 rfl (lv_room (Nat.le_of_ble_eq_true rfl)) d_E_ready_43 ⟨Nat.zero_le _, Nat.zero_le _⟩) hD hS hA hK (fun r43 u43 H locs hw hP hD hS => ?_)
        refine lv_if_eq (tgt := 52) hx hb d_E_ready_46 (by decide) (fun hc => ?_) (fun hc => ?_)
        · replace hw := hw.1 hc
          refine lv_iinc (k := 3) (v := x3 + 1) (lv' := [(3, .int (x3 + 1)), (0, .ref (a 0)), (1, .int x1), (2, .int x2)]) hx hb d_E_ready_52 hl rfl rfl (by decide) rfl (fun ls hl => ?_)
          refine lv_goto (tgt := 18) hx hb d_E_ready_55 (by decide) ?_
          exact ih_18 u43 x1 x2 (x3 + 1) _ _ _ hP hD hS (lv_sub hl [1, 2, 3, 0] rfl) hw
        · replace hw := hw.2 hc
          refine lv_iinc (k := 2) (v := x2 + 1) (lv' := [(2, .int (x2 + 1)), (0, .ref (a 0)), (1, .int x1), (3, .int x3)]) hx hb d_E_ready_49 hl rfl rfl (by decide) rfl (fun ls hl => ?_)
          refine lv_iinc (k := 3) (v := x3 + 1) (lv' := [(3, .int (x3 + 1)), (2, .int (x2 + 1)), (0, .ref (a 0)), (1, .int x1)]) hx hb d_E_ready_52 hl rfl rfl (by decide) rfl (fun ls hl => ?_)
          refine lv_goto (tgt := 18) hx hb d_E_ready_55 (by decide) ?_
          exact ih_18 u43 x1 (x2 + 1) (x3 + 1) _ _ _ hP hD hS (lv_sub hl [2, 3, 1, 0] rfl) hw
  unfold wp_E_ready at hw
  refine lv_iload_n hx hb d_E_ready_0 rfl (lv_at hl 1 rfl) ?_
  refine lv_iconst (v := 1) hx hb d_E_ready_1 (by decide) ?_
  refine aft_i (va_runS (As := [.int x1, .int 1]) (rest := []) ⟨hx, hb, hml, hown, hts⟩ (c_E_isWithin l D a cI cZ _ g x1 1 _ hw) ⟨(callB_of 2 hts good_E_isWithin rfl rfl rfl (hts _ tb_1) (hts _ tb_240) hd_E_isWithin ⟨Nat.le_of_ble_eq_true rfl, Nat.le_of_ble_eq_true rfl⟩), (hts _ tb_241)⟩ (preS hP hD hK hN) rfl rfl hl.1 rfl (lv_room (Nat.le_of_ble_eq_true rfl)) d_E_ready_2 ⟨Nat.zero_le _, Nat.zero_le _⟩) hD hS hA hK (fun r2 u2 H locs hw hP hD hS => ?_)
  refine lv_if_ne (tgt := 10) hx hb d_E_ready_5 (by decide) (fun hc => ?_) (fun hc => ?_)
  · replace hw := hw.1 hc
    refine lv_aload_n hx hb d_E_ready_10 rfl (lv_at hl 0 rfl) ?_
    refine aft_v (va_runV (As := []) (rest := []) ⟨hx, hb, hml, hown, hts⟩ (c_E_markReady l D a cI cZ _ u2 _ hw) ⟨(callB_of 0 hts good_E_markReady rfl rfl rfl (hts _ tb_1) (hts _ tb_252) hd_E_markReady ⟨Nat.le_of_ble_eq_true rfl, Nat.le_of_ble_eq_true rfl⟩), hts _ tb_254, hts _ ts_13⟩ (preV 0 4 hP hD hK hN rfl rfl) rfl rfl hl.1 rfl (lv_room (Nat.le_of_ble_eq_true rfl)) d_E_ready_11 ⟨Nat.zero_le _, Nat.zero_le _⟩) hD hS hA hK (fun u11 H locs hw hP hD hS => ?_)
    refine lv_iconst (v := 0) hx hb d_E_ready_14 (by decide) ?_
    refine lv_istore_n (lv' := [(2, .int 0), (0, .ref (a 0)), (1, .int x1)]) hx hb d_E_ready_15 rfl hl (by decide) rfl (fun ls hl => ?_)
    refine lv_iconst (v := 0) hx hb d_E_ready_16 (by decide) ?_
    refine lv_istore_n (lv' := [(3, .int 0), (2, .int 0), (0, .ref (a 0)), (1, .int x1)]) hx hb d_E_ready_17 rfl hl (by decide) rfl (fun ls hl => ?_)
    obtain ⟨n, hw⟩ := hw
    exact k_18 n u11 x1 0 0 _ _ _ hP hD hS (lv_sub hl [2, 3, 1, 0] rfl) hw
  · replace hw := hw.2 hc
    refine lv_iconst (v := (-1)) hx hb d_E_ready_8 (by decide) ?_
    exact hret _ _ _ _ _ _ hw hP hD hS d_E_ready_9
set_option maxHeartbeats 4000000 in
set_option maxRecDepth 100000 in
theorem c_E_requestOf (l : Launch) (D : va_G) (a : Nat → Nat) (cI cZ : ClassId) (sz : Nat) (g : St) (x1 : Int32) (Q : Int32 → St → Prop) (hw : wp_E_requestOf g x1 Q) : MT_i l y_E_requestOf b_E_requestOf 2 rm_E_requestOf (wE a cI cZ) D (ty_ cI cZ) sz g [.ref (a 0), .int x1] Q := by
  refine MTi_of (by decide +kernel) (Nat.le_of_ble_eq_true rfl) ?_
  intro p e s m args below meth c A Qt ls hx hb hml hts hown hN hK hP hD hA hl hret
  have hS : va_S A s.heap s.heap [] := va_S.rf
  have hl : lv_has ls 2 [(0, .ref (a 0)), (1, .int x1)] := hl
  unfold wp_E_requestOf at hw
  refine lv_aload_n hx hb d_E_requestOf_0 rfl (lv_at hl 0 rfl) ?_
  refine va_get (D := D) (ci := 4) (C := R_E) (T := F_E) (N := 11) hx hb hts in_E hown hK hP 0 rfl rfl 1 (by decide) (hts _ tb_129) (fun _ h9 => h9) rfl d_E_requestOf_1 ?_
  refine lv_iload_n hx hb d_E_requestOf_4 rfl (lv_at hl 1 rfl) ?_
  refine aft_i (va_runVN (As := [.int x1]) (rest := []) ⟨hx, hb, hml, hown, hts⟩ (c_P_isWaiting l D a cI cZ _ g x1 _ hw) ⟨(va_cnB 1 hts good_P_isWaiting rfl rfl rfl (hN _ tn_338) (hts _ tb_2) hd_P_isWaiting ⟨Nat.le_of_ble_eq_true rfl, Nat.le_of_ble_eq_true rfl⟩), hts _ tb_340, hts _ ts_27⟩ (preV 2 2 hP hD hK hN rfl rfl) rfl rfl hl.1 rfl (lv_room (Nat.le_of_ble_eq_true rfl)) d_E_requestOf_5 ⟨Nat.zero_le _, Nat.zero_le _⟩) hD hS hA hK (fun r5 u5 H locs hw hP hD hS => ?_)
  refine lv_if_eq (tgt := 23) hx hb d_E_requestOf_8 (by decide) (fun hc => ?_) (fun hc => ?_)
  · replace hw := hw.1 hc
    refine lv_iconst (v := (-1)) hx hb d_E_requestOf_23 (by decide) ?_
    exact hret _ _ _ _ _ _ hw hP hD hS d_E_requestOf_24
  · replace hw := hw.2 hc
    refine lv_aload_n hx hb d_E_requestOf_11 rfl (lv_at hl 0 rfl) ?_
    refine va_get (D := D) (ci := 4) (C := R_E) (T := F_E) (N := 11) hx hb hts in_E hown hK hP 0 rfl rfl 1 (by decide) (hts _ tb_129) (fun _ h9 => h9) rfl d_E_requestOf_12 ?_
    refine va_getN (D := D) (ci := 2) (C := R_P) (T := F_P) (N := 7) hx hb hts in_P hown hK hP 2 rfl rfl 3 (by decide) (va_Nw.use rfl (hN _ tn_29)) (fun _ h9 => h9) rfl d_E_requestOf_15 ?_
    refine lv_iload_n hx hb d_E_requestOf_18 rfl (lv_at hl 1 rfl) ?_
    refine va_iald hx hb hK hP 6 0 rfl rfl hw.1 d_E_requestOf_19 ?_
    replace hw := hw.2
    refine lv_goto (tgt := 24) hx hb d_E_requestOf_20 (by decide) ?_
    exact hret _ _ _ _ _ _ hw hP hD hS d_E_requestOf_24
