set_option maxHeartbeats 4000000 in
set_option maxRecDepth 100000 in
theorem c_M_fresh (l : Launch) (D : va_G) (a : Nat → Nat) (cI cZ : ClassId) (sz : Nat) (g : St) (Q : Int32 → St → Prop) (hw : wp_M_fresh g Q) : MT_i l y_M_fresh b_M_fresh 3 rm_M_fresh (wM a cI cZ) D (ty_ cI cZ) sz g [.ref (a 0)] Q := by
  refine MTi_of (by decide +kernel) (Nat.le_of_ble_eq_true rfl) ?_
  intro p e s m args below meth c A Qt ls hx hb hml hts hown hN hK hP hD hA hl hret
  have hS : va_S A s.heap s.heap [] := va_S.rf
  have hl : lv_has ls 3 [(0, .ref (a 0))] := hl
  have k_107 : ∀ (g : St) (z0 : Int32) (H : Heap) (locs : List Loc) (ls : Array Slot), va_P D cls_ (wM a cI cZ g) H → va_D A (wM a cI cZ g) → va_S A s.heap H locs → lv_has ls 3 [(0, .ref (a 0))] → wb_M_fresh_107 Q g z0 → W p l e rm_M_fresh s m args below meth c H locs 0 0 Qt (F0 m 107 ls [.int z0]) := by
    intro g z0 H locs ls hP hD hS hl hw
    unfold wb_M_fresh_107 at hw
    refine lv_istore_n (lv' := [(2, .int z0), (0, .ref (a 0))]) hx hb d_M_fresh_107 rfl hl (by decide) rfl (fun ls hl => ?_)
    refine lv_iload_n hx hb d_M_fresh_108 rfl (lv_at hl 0 rfl) ?_
    refine lv_if_ge (tgt := 124) hx hb d_M_fresh_109 (by decide) (fun hc => ?_) (fun hc => ?_)
    · replace hw := hw.1 hc
      refine lv_iload_n hx hb d_M_fresh_124 rfl (lv_at hl 0 rfl) ?_
      exact hret _ _ _ _ _ _ hw hP hD hS d_M_fresh_125
    · replace hw := hw.2 hc
      refine lv_aload_n hx hb d_M_fresh_112 rfl (lv_at hl 1 rfl) ?_
      refine lv_aload_n hx hb d_M_fresh_113 rfl (lv_at hl 1 rfl) ?_
      refine va_get (D := D) (ci := 5) (C := R_M) (T := F_M) (N := 19) hx hb hts in_M hown hK hP 0 rfl rfl 15 (by decide) (hts _ tb_384) (fun _ h9 => h9) rfl d_M_fresh_114 ?_
      refine lv_iconst (v := 0) hx hb d_M_fresh_117 (by decide) ?_
      refine aft_i (va_runV (As := [.int (g.2.1 4), .int 0]) (rest := []) ⟨hx, hb, hml, hown, hts⟩ (c_M_sweep l D a cI cZ _ g (g.2.1 4) 0 _ hw) ⟨(callB_of 2 hts good_M_sweep rfl rfl rfl (hts _ tb_6) (hts _ tb_484) hd_M_sweep ⟨Nat.le_of_ble_eq_true rfl, Nat.le_of_ble_eq_true rfl⟩), hts _ tb_486, hts _ ts_35⟩ (preV 0 5 hP hD hK hN rfl rfl) rfl rfl hl.1 rfl (lv_room (Nat.le_of_ble_eq_true rfl)) d_M_fresh_118 ⟨Nat.zero_le _, Nat.zero_le _⟩) hD hS hA hK (fun r118 u118 H locs hw hP hD hS => ?_)
      refine lv_goto (tgt := 125) hx hb d_M_fresh_121 (by decide) ?_
      exact hret _ _ _ _ _ _ hw hP hD hS d_M_fresh_125
  have k_73 : ∀ (g : St) (H : Heap) (locs : List Loc) (ls : Array Slot), va_P D cls_ (wM a cI cZ g) H → va_D A (wM a cI cZ g) → va_S A s.heap H locs → lv_has ls 3 [(0, .ref (a 0))] → wb_M_fresh_73 Q g → W p l e rm_M_fresh s m args below meth c H locs 0 0 Qt (F0 m 73 ls []) := by
    intro g H locs ls hP hD hS hl hw
    unfold wb_M_fresh_73 at hw
    refine lv_aload_n hx hb d_M_fresh_73 rfl (lv_at hl 0 rfl) ?_
    refine lv_iconst (v := 1) hx hb d_M_fresh_74 (by decide) ?_
    refine va_put (v := .int 1) (ty := .int) (D := D) (ci := 5) (C := R_M) (T := F_M) (N := 19) hx hb hts in_M t_M t_M_ok n_M hown hK hP hD hS 0 rfl rfl 16 (by decide) (hts _ tb_385) (fun _ h9 => h9) rfl (by decide +kernel) rfl rfl (Nat.le_of_ble_eq_true rfl) d_M_fresh_75 (fun H locs hP hD hS => ?_)
    have hP : va_P D cls_ (wM a cI cZ (sI g 5 1)) H := pI_M_5 (g := g) (v := 1) hP
    have hD : va_D A (wM a cI cZ (sI g 5 1)) := dI_M_5 (g := g) (v := 1) hD
    generalize sI g 5 1 = g_75 at hw hP hD
    refine lv_aload_n hx hb d_M_fresh_78 rfl (lv_at hl 0 rfl) ?_
    refine lv_aload_n hx hb d_M_fresh_79 rfl (lv_at hl 0 rfl) ?_
    refine va_get (D := D) (ci := 5) (C := R_M) (T := F_M) (N := 19) hx hb hts in_M hown hK hP 0 rfl rfl 15 (by decide) (hts _ tb_384) (fun _ h9 => h9) rfl d_M_fresh_80 ?_
    refine aft_i (va_runV (As := [.int (g_75.2.1 4)]) (rest := []) ⟨hx, hb, hml, hown, hts⟩ (c_M_late l D a cI cZ _ g_75 (g_75.2.1 4) _ hw) ⟨(callB_of 1 hts good_M_late rfl rfl rfl (hts _ tb_6) (hts _ tb_500) hd_M_late ⟨Nat.le_of_ble_eq_true rfl, Nat.le_of_ble_eq_true rfl⟩), hts _ tb_502, hts _ ts_38⟩ (preV 0 5 hP hD hK hN rfl rfl) rfl rfl hl.1 rfl (lv_room (Nat.le_of_ble_eq_true rfl)) d_M_fresh_83 ⟨Nat.zero_le _, Nat.zero_le _⟩) hD hS hA hK (fun r83 u83 H locs hw hP hD hS => ?_)
    refine lv_istore_n (lv' := [(2, .int r83), (0, .ref (a 0))]) hx hb d_M_fresh_86 rfl hl (by decide) rfl (fun ls hl => ?_)
    refine lv_iload_n hx hb d_M_fresh_87 rfl (lv_at hl 0 rfl) ?_
    refine lv_if_ge (tgt := 106) hx hb d_M_fresh_88 (by decide) (fun hc => ?_) (fun hc => ?_)
    · replace hw := hw.1 hc
      refine lv_iload_n hx hb d_M_fresh_106 rfl (lv_at hl 0 rfl) ?_
      exact k_107 u83 r83 _ _ _ hP hD hS (lv_sub hl [1] rfl) hw
    · replace hw := hw.2 hc
      refine lv_aload_n hx hb d_M_fresh_91 rfl (lv_at hl 1 rfl) ?_
      refine lv_aload_n hx hb d_M_fresh_92 rfl (lv_at hl 1 rfl) ?_
      refine va_get (D := D) (ci := 5) (C := R_M) (T := F_M) (N := 19) hx hb hts in_M hown hK hP 0 rfl rfl 15 (by decide) (hts _ tb_384) (fun _ h9 => h9) rfl d_M_fresh_93 ?_
      refine lv_aload_n hx hb d_M_fresh_96 rfl (lv_at hl 1 rfl) ?_
      refine va_get (D := D) (ci := 5) (C := R_M) (T := F_M) (N := 19) hx hb hts in_M hown hK hP 0 rfl rfl 14 (by decide) (hts _ tb_383) (fun _ h9 => h9) rfl d_M_fresh_97 ?_
      refine aft_i (va_runV (As := [.int (u83.2.1 4), .int (u83.2.1 3)]) (rest := []) ⟨hx, hb, hml, hown, hts⟩ (c_M_sweep l D a cI cZ _ u83 (u83.2.1 4) (u83.2.1 3) _ hw) ⟨(callB_of 2 hts good_M_sweep rfl rfl rfl (hts _ tb_6) (hts _ tb_484) hd_M_sweep ⟨Nat.le_of_ble_eq_true rfl, Nat.le_of_ble_eq_true rfl⟩), hts _ tb_486, hts _ ts_35⟩ (preV 0 5 hP hD hK hN rfl rfl) rfl rfl hl.1 rfl (lv_room (Nat.le_of_ble_eq_true rfl)) d_M_fresh_100 ⟨Nat.zero_le _, Nat.zero_le _⟩) hD hS hA hK (fun r100 u100 H locs hw hP hD hS => ?_)
      refine lv_goto (tgt := 107) hx hb d_M_fresh_103 (by decide) ?_
      exact k_107 u100 r100 _ _ _ hP hD hS (lv_sub hl [1] rfl) hw
  have k_63 : ∀ (g : St) (H : Heap) (locs : List Loc) (ls : Array Slot), va_P D cls_ (wM a cI cZ g) H → va_D A (wM a cI cZ g) → va_S A s.heap H locs → lv_has ls 3 [(0, .ref (a 0))] → wb_M_fresh_63 Q g → W p l e rm_M_fresh s m args below meth c H locs 0 0 Qt (F0 m 63 ls []) := by
    intro g H locs ls hP hD hS hl hw
    unfold wb_M_fresh_63 at hw
    refine lv_aload_n hx hb d_M_fresh_63 rfl (lv_at hl 0 rfl) ?_
    refine lv_iconst (v := 1) hx hb d_M_fresh_64 (by decide) ?_
    refine va_put (v := .int 1) (ty := .int) (D := D) (ci := 5) (C := R_M) (T := F_M) (N := 19) hx hb hts in_M t_M t_M_ok n_M hown hK hP hD hS 0 rfl rfl 15 (by decide) (hts _ tb_384) (fun _ h9 => h9) rfl (by decide +kernel) rfl rfl (Nat.le_of_ble_eq_true rfl) d_M_fresh_65 (fun H locs hP hD hS => ?_)
    have hP : va_P D cls_ (wM a cI cZ (sI g 4 1)) H := pI_M_4 (g := g) (v := 1) hP
    have hD : va_D A (wM a cI cZ (sI g 4 1)) := dI_M_4 (g := g) (v := 1) hD
    generalize sI g 4 1 = g_65 at hw hP hD
    refine lv_aload_n hx hb d_M_fresh_68 rfl (lv_at hl 0 rfl) ?_
    refine lv_iconst (v := 0) hx hb d_M_fresh_69 (by decide) ?_
    refine va_put (v := .int 0) (ty := .int) (D := D) (ci := 5) (C := R_M) (T := F_M) (N := 19) hx hb hts in_M t_M t_M_ok n_M hown hK hP hD hS 0 rfl rfl 17 (by decide) (hts _ tb_386) (fun _ h9 => h9) rfl (by decide +kernel) rfl rfl (Nat.le_of_ble_eq_true rfl) d_M_fresh_70 (fun H locs hP hD hS => ?_)
    have hP : va_P D cls_ (wM a cI cZ (sI g_65 6 0)) H := pI_M_6 (g := g_65) (v := 0) hP
    have hD : va_D A (wM a cI cZ (sI g_65 6 0)) := dI_M_6 (g := g_65) (v := 0) hD
    generalize sI g_65 6 0 = g_70 at hw hP hD
    exact k_73 g_70 _ _ _ hP hD hS (lv_sub hl [0] rfl) hw
  have k_34 : ∀ (g : St) (x1 : Int32) (H : Heap) (locs : List Loc) (ls : Array Slot), va_P D cls_ (wM a cI cZ g) H → va_D A (wM a cI cZ g) → va_S A s.heap H locs → lv_has ls 3 [(0, .ref (a 0)), (1, .int x1)] → wb_M_fresh_34 Q g x1 → W p l e rm_M_fresh s m args below meth c H locs 0 0 Qt (F0 m 34 ls []) := by
    intro g x1 H locs ls hP hD hS hl hw
    unfold wb_M_fresh_34 at hw
    refine lv_aload_n hx hb d_M_fresh_34 rfl (lv_at hl 0 rfl) ?_
    refine lv_iconst (v := 0) hx hb d_M_fresh_35 (by decide) ?_
    refine va_put (v := .int 0) (ty := .int) (D := D) (ci := 5) (C := R_M) (T := F_M) (N := 19) hx hb hts in_M t_M t_M_ok n_M hown hK hP hD hS 0 rfl rfl 15 (by decide) (hts _ tb_384) (fun _ h9 => h9) rfl (by decide +kernel) rfl rfl (Nat.le_of_ble_eq_true rfl) d_M_fresh_36 (fun H locs hP hD hS => ?_)
    have hP : va_P D cls_ (wM a cI cZ (sI g 4 0)) H := pI_M_4 (g := g) (v := 0) hP
    have hD : va_D A (wM a cI cZ (sI g 4 0)) := dI_M_4 (g := g) (v := 0) hD
    generalize sI g 4 0 = g_36 at hw hP hD
    refine lv_aload_n hx hb d_M_fresh_39 rfl (lv_at hl 0 rfl) ?_
    refine lv_iload_n hx hb d_M_fresh_40 rfl (lv_at hl 1 rfl) ?_
    refine lv_if_eq (tgt := 53) hx hb d_M_fresh_41 (by decide) (fun hc => ?_) (fun hc => ?_)
    · replace hw := hw.1 hc
      refine lv_aload_n hx hb d_M_fresh_53 rfl (lv_at hl 0 rfl) ?_
      refine va_get (D := D) (ci := 5) (C := R_M) (T := F_M) (N := 19) hx hb hts in_M hown hK hP 0 rfl rfl 17 (by decide) (hts _ tb_386) (fun _ h9 => h9) rfl d_M_fresh_54 ?_
      refine va_put (v := .int (g_36.2.1 6)) (ty := .int) (D := D) (ci := 5) (C := R_M) (T := F_M) (N := 19) hx hb hts in_M t_M t_M_ok n_M hown hK hP hD hS 0 rfl rfl 17 (by decide) (hts _ tb_386) (fun _ h9 => h9) rfl (by decide +kernel) rfl rfl (Nat.le_of_ble_eq_true rfl) d_M_fresh_57 (fun H locs hP hD hS => ?_)
      have hP : va_P D cls_ (wM a cI cZ (sI g_36 6 (g_36.2.1 6))) H := pI_M_6 (g := g_36) (v := g_36.2.1 6) hP
      have hD : va_D A (wM a cI cZ (sI g_36 6 (g_36.2.1 6))) := dI_M_6 (g := g_36) (v := g_36.2.1 6) hD
      generalize sI g_36 6 (g_36.2.1 6) = g_57 at hw hP hD
      refine lv_goto (tgt := 73) hx hb d_M_fresh_60 (by decide) ?_
      exact k_73 g_57 _ _ _ hP hD hS (lv_sub hl [0] rfl) hw
    · replace hw := hw.2 hc
      refine lv_aload_n hx hb d_M_fresh_44 rfl (lv_at hl 0 rfl) ?_
      refine va_get (D := D) (ci := 5) (C := R_M) (T := F_M) (N := 19) hx hb hts in_M hown hK hP 0 rfl rfl 17 (by decide) (hts _ tb_386) (fun _ h9 => h9) rfl d_M_fresh_45 ?_
      refine lv_iconst (v := 1) hx hb d_M_fresh_48 (by decide) ?_
      refine lv_iadd hx hb d_M_fresh_49 ?_
      refine lv_goto (tgt := 57) hx hb d_M_fresh_50 (by decide) ?_
      refine va_put (v := .int ((g_36.2.1 6) + 1)) (ty := .int) (D := D) (ci := 5) (C := R_M) (T := F_M) (N := 19) hx hb hts in_M t_M t_M_ok n_M hown hK hP hD hS 0 rfl rfl 17 (by decide) (hts _ tb_386) (fun _ h9 => h9) rfl (by decide +kernel) rfl rfl (Nat.le_of_ble_eq_true rfl) d_M_fresh_57 (fun H locs hP hD hS => ?_)
      have hP : va_P D cls_ (wM a cI cZ (sI g_36 6 ((g_36.2.1 6) + 1))) H := pI_M_6 (g := g_36) (v := (g_36.2.1 6) + 1) hP
      have hD : va_D A (wM a cI cZ (sI g_36 6 ((g_36.2.1 6) + 1))) := dI_M_6 (g := g_36) (v := (g_36.2.1 6) + 1) hD
      generalize sI g_36 6 ((g_36.2.1 6) + 1) = g_57 at hw hP hD
      refine lv_goto (tgt := 73) hx hb d_M_fresh_60 (by decide) ?_
      exact k_73 g_57 _ _ _ hP hD hS (lv_sub hl [0] rfl) hw
  have k_13 : ∀ (g : St) (z0 : Int32) (H : Heap) (locs : List Loc) (ls : Array Slot), va_P D cls_ (wM a cI cZ g) H → va_D A (wM a cI cZ g) → va_S A s.heap H locs → lv_has ls 3 [(0, .ref (a 0))] → wb_M_fresh_13 Q g z0 → W p l e rm_M_fresh s m args below meth c H locs 0 0 Qt (F0 m 13 ls [.int z0]) := by
    intro g z0 H locs ls hP hD hS hl hw
    unfold wb_M_fresh_13 at hw
    refine lv_istore_n (lv' := [(1, .int z0), (0, .ref (a 0))]) hx hb d_M_fresh_13 rfl hl (by decide) rfl (fun ls hl => ?_)
    refine lv_aload_n hx hb d_M_fresh_14 rfl (lv_at hl 1 rfl) ?_
    refine lv_iconst (v := 0) hx hb d_M_fresh_15 (by decide) ?_
    refine aft_i (va_runV (As := [.int 0]) (rest := []) ⟨hx, hb, hml, hown, hts⟩ (c_M_ready l D a cI cZ _ g 0 _ hw) ⟨(callB_of 1 hts good_M_ready rfl rfl rfl (hts _ tb_6) (hts _ tb_496) hd_M_ready ⟨Nat.le_of_ble_eq_true rfl, Nat.le_of_ble_eq_true rfl⟩), hts _ tb_497, hts _ tb_498⟩ (preV 0 5 hP hD hK hN rfl rfl) rfl rfl hl.1 rfl (lv_room (Nat.le_of_ble_eq_true rfl)) d_M_fresh_16 ⟨Nat.zero_le _, Nat.zero_le _⟩) hD hS hA hK (fun r16 u16 H locs hw hP hD hS => ?_)
    refine lv_if_le (tgt := 63) hx hb d_M_fresh_19 (by decide) (fun hc => ?_) (fun hc => ?_)
    · replace hw := hw.1 hc
      exact k_63 u16 _ _ _ hP hD hS (lv_sub hl [1] rfl) hw
    · replace hw := hw.2 hc
      refine lv_iload_n hx hb d_M_fresh_22 rfl (lv_at hl 0 rfl) ?_
      refine lv_if_eq (tgt := 34) hx hb d_M_fresh_23 (by decide) (fun hc => ?_) (fun hc => ?_)
      · replace hw := hw.1 hc
        exact k_34 u16 z0 _ _ _ hP hD hS (lv_sub hl [1, 0] rfl) hw
      · replace hw := hw.2 hc
        refine lv_aload_n hx hb d_M_fresh_26 rfl (lv_at hl 1 rfl) ?_
        refine va_get (D := D) (ci := 5) (C := R_M) (T := F_M) (N := 19) hx hb hts in_M hown hK hP 0 rfl rfl 17 (by decide) (hts _ tb_386) (fun _ h9 => h9) rfl d_M_fresh_27 ?_
        refine lv_iconst (v := 2) hx hb d_M_fresh_30 (by decide) ?_
        refine lv_icmp_ge (tgt := 63) hx hb d_M_fresh_31 (by decide) (fun hc => ?_) (fun hc => ?_)
        · replace hw := hw.1 hc
          exact k_63 u16 _ _ _ hP hD hS (lv_sub hl [1] rfl) hw
        · replace hw := hw.2 hc
          exact k_34 u16 z0 _ _ _ hP hD hS (lv_sub hl [1, 0] rfl) hw
  unfold wp_M_fresh at hw
  refine lv_aload_n hx hb d_M_fresh_0 rfl (lv_at hl 0 rfl) ?_
  refine lv_iconst (v := 1) hx hb d_M_fresh_1 (by decide) ?_
  refine aft_i (va_runV (As := [.int 1]) (rest := []) ⟨hx, hb, hml, hown, hts⟩ (c_M_ready l D a cI cZ _ g 1 _ hw) ⟨(callB_of 1 hts good_M_ready rfl rfl rfl (hts _ tb_6) (hts _ tb_496) hd_M_ready ⟨Nat.le_of_ble_eq_true rfl, Nat.le_of_ble_eq_true rfl⟩), hts _ tb_497, hts _ tb_498⟩ (preV 0 5 hP hD hK hN rfl rfl) rfl rfl hl.1 rfl (lv_room (Nat.le_of_ble_eq_true rfl)) d_M_fresh_2 ⟨Nat.zero_le _, Nat.zero_le _⟩) hD hS hA hK (fun r2 u2 H locs hw hP hD hS => ?_)
  refine lv_if_le (tgt := 12) hx hb d_M_fresh_5 (by decide) (fun hc => ?_) (fun hc => ?_)
  · replace hw := hw.1 hc
    refine lv_iconst (v := 0) hx hb d_M_fresh_12 (by decide) ?_
    exact k_13 u2 0 _ _ _ hP hD hS (lv_sub hl [0] rfl) hw
  · replace hw := hw.2 hc
    refine lv_iconst (v := 1) hx hb d_M_fresh_8 (by decide) ?_
    refine lv_goto (tgt := 13) hx hb d_M_fresh_9 (by decide) ?_
    exact k_13 u2 1 _ _ _ hP hD hS (lv_sub hl [0] rfl) hw
set_option maxHeartbeats 4000000 in
set_option maxRecDepth 100000 in
theorem c_M_carryOut (l : Launch) (D : va_G) (a : Nat → Nat) (cI cZ : ClassId) (sz : Nat) (g : St) (x1 : Int32) (Q : St → Prop) (hw : wp_M_carryOut g x1 Q) : MT_v l y_M_carryOut b_M_carryOut 3 rm_M_carryOut (wM a cI cZ) D (ty_ cI cZ) sz g [.ref (a 0), .int x1] Q := by
  refine MTv_of (by decide +kernel) (Nat.le_of_ble_eq_true rfl) ?_
  intro p e s m args below meth c A Qt ls hx hb hml hts hown hN hK hP hD hA hl hret
  have hS : va_S A s.heap s.heap [] := va_S.rf
  have hl : lv_has ls 3 [(0, .ref (a 0)), (1, .int x1)] := hl
  have k_9 : ∀ (n : Nat) (g : St) (x1 : Int32) (x2 : Int32) (H : Heap) (locs : List Loc) (ls : Array Slot), va_P D cls_ (wM a cI cZ g) H → va_D A (wM a cI cZ g) → va_S A s.heap H locs → lv_has ls 3 [(0, .ref (a 0)), (1, .int x1), (2, .int x2)] → wl_M_carryOut_9 Q n g x1 x2 → W p l e rm_M_carryOut s m args below meth c H locs 0 0 Qt (F0 m 9 ls []) := by
    intro n
    induction n with
    | zero => intro g x1 x2 H locs ls hP hD hS hl hw; exact False.elim hw
    | succ n_9 ih_9 =>
      intro g x1 x2 H locs ls hP hD hS hl hw
      unfold wl_M_carryOut_9 at hw
      refine lv_iload_n hx hb d_M_carryOut_9 rfl (lv_at hl 2 rfl) ?_
      refine lv_aload_n hx hb d_M_carryOut_10 rfl (lv_at hl 0 rfl) ?_
      refine va_get (D := D) (ci := 5) (C := R_M) (T := F_M) (N := 19) hx hb hts in_M hown hK hP 0 rfl rfl 4 (by decide) (hts _ tb_373) (fun _ h9 => h9) rfl d_M_carryOut_11 ?_
      refine lv_iload_n hx hb d_M_carryOut_14 rfl (lv_at hl 1 rfl) ?_
      refine va_iald hx hb hK hP 4 0 rfl rfl hw.1 d_M_carryOut_15 ?_
      replace hw := hw.2
      refine lv_icmp_ge (tgt := 83) hx hb d_M_carryOut_16 (by decide) (fun hc => ?_) (fun hc => ?_)
      · replace hw := hw.1 hc
        exact hret _ _ _ _ _ hw hP hD hS d_M_carryOut_83
      · replace hw := hw.2 hc
        refine lv_aload_n hx hb d_M_carryOut_19 rfl (lv_at hl 0 rfl) ?_
        refine va_get (D := D) (ci := 5) (C := R_M) (T := F_M) (N := 19) hx hb hts in_M hown hK hP 0 rfl rfl 2 (by decide) (hts _ tb_371) (fun _ h9 => h9) rfl d_M_carryOut_20 ?_
        refine lv_iload_n hx hb d_M_carryOut_23 rfl (lv_at hl 1 rfl) ?_
        refine va_iald hx hb hK hP 2 0 rfl rfl hw.1 d_M_carryOut_24 ?_
        replace hw := hw.2
        refine lv_iconst (v := 1) hx hb d_M_carryOut_25 (by decide) ?_
        refine lv_icmp_ne (tgt := 53) hx hb d_M_carryOut_26 (by decide) (fun hc => ?_) (fun hc => ?_)
        · replace hw := hw.1 hc
          refine lv_aload_n hx hb d_M_carryOut_53 rfl (lv_at hl 0 rfl) ?_
          refine va_get (D := D) (ci := 5) (C := R_M) (T := F_M) (N := 19) hx hb hts in_M hown hK hP 0 rfl rfl 8 (by decide) (hts _ tb_377) (fun _ h9 => h9) rfl d_M_carryOut_54 ?_
          refine lv_bipush (v := 8) hx hb d_M_carryOut_57 (by decide) ?_
          refine lv_iload_n hx hb d_M_carryOut_59 rfl (lv_at hl 1 rfl) ?_
          refine lv_imul hx hb d_M_carryOut_60 ?_
          refine lv_iload_n hx hb d_M_carryOut_61 rfl (lv_at hl 2 rfl) ?_
          refine lv_iadd hx hb d_M_carryOut_62 ?_
          refine lv_aload_n hx hb d_M_carryOut_63 rfl (lv_at hl 0 rfl) ?_
          refine va_get (D := D) (ci := 5) (C := R_M) (T := F_M) (N := 19) hx hb hts in_M hown hK hP 0 rfl rfl 0 (by decide) (hts _ tb_369) (fun _ h9 => h9) rfl d_M_carryOut_64 ?_
          refine lv_aload_n hx hb d_M_carryOut_67 rfl (lv_at hl 0 rfl) ?_
          refine va_get (D := D) (ci := 5) (C := R_M) (T := F_M) (N := 19) hx hb hts in_M hown hK hP 0 rfl rfl 3 (by decide) (hts _ tb_372) (fun _ h9 => h9) rfl d_M_carryOut_68 ?_
          refine lv_iload_n hx hb d_M_carryOut_71 rfl (lv_at hl 1 rfl) ?_
          refine va_iald hx hb hK hP 3 0 rfl rfl hw.1 d_M_carryOut_72 ?_
          replace hw := hw.2
          refine lv_iload_n hx hb d_M_carryOut_73 rfl (lv_at hl 2 rfl) ?_
          refine lv_iadd hx hb d_M_carryOut_74 ?_
          refine va_iald hx hb hK hP 1 0 rfl rfl hw.1 d_M_carryOut_75 ?_
          replace hw := hw.2
          refine va_iast hx hb hK hP hD hS 8 0 rfl rfl hw.1 d_M_carryOut_76 (fun H locs hP hD hS => ?_)
          replace hw := hw.2
          have hP : va_P D cls_ (wM a cI cZ (sA g 7 ((8 * x1) + x2).toNatClampNeg (g.1 0 ((g.1 2 x1.toNatClampNeg) + x2).toNatClampNeg))) H := pA_M_7 (g := g) (j := ((8 * x1) + x2).toNatClampNeg) (x := (g.1 0 ((g.1 2 x1.toNatClampNeg) + x2).toNatClampNeg)) hP
          have hD : va_D A (wM a cI cZ (sA g 7 ((8 * x1) + x2).toNatClampNeg (g.1 0 ((g.1 2 x1.toNatClampNeg) + x2).toNatClampNeg))) := dA_M_7 (g := g) (j := ((8 * x1) + x2).toNatClampNeg) (x := (g.1 0 ((g.1 2 x1.toNatClampNeg) + x2).toNatClampNeg)) hD
          generalize sA g 7 ((8 * x1) + x2).toNatClampNeg (g.1 0 ((g.1 2 x1.toNatClampNeg) + x2).toNatClampNeg) = g_76 at hw hP hD
          refine lv_iinc (k := 2) (v := x2 + 1) (lv' := [(2, .int (x2 + 1)), (0, .ref (a 0)), (1, .int x1)]) hx hb d_M_carryOut_77 hl rfl rfl (by decide) rfl (fun ls hl => ?_)
          refine lv_goto (tgt := 9) hx hb d_M_carryOut_80 (by decide) ?_
          exact ih_9 g_76 x1 (x2 + 1) _ _ _ hP hD hS (lv_sub hl [1, 2, 0] rfl) hw
        · replace hw := hw.2 hc
          refine lv_aload_n hx hb d_M_carryOut_29 rfl (lv_at hl 0 rfl) ?_
          refine va_get (D := D) (ci := 5) (C := R_M) (T := F_M) (N := 19) hx hb hts in_M hown hK hP 0 rfl rfl 0 (by decide) (hts _ tb_369) (fun _ h9 => h9) rfl d_M_carryOut_30 ?_
          refine lv_aload_n hx hb d_M_carryOut_33 rfl (lv_at hl 0 rfl) ?_
          refine va_get (D := D) (ci := 5) (C := R_M) (T := F_M) (N := 19) hx hb hts in_M hown hK hP 0 rfl rfl 3 (by decide) (hts _ tb_372) (fun _ h9 => h9) rfl d_M_carryOut_34 ?_
          refine lv_iload_n hx hb d_M_carryOut_37 rfl (lv_at hl 1 rfl) ?_
          refine va_iald hx hb hK hP 3 0 rfl rfl hw.1 d_M_carryOut_38 ?_
          replace hw := hw.2
          refine lv_iload_n hx hb d_M_carryOut_39 rfl (lv_at hl 2 rfl) ?_
          refine lv_iadd hx hb d_M_carryOut_40 ?_
          refine lv_aload_n hx hb d_M_carryOut_41 rfl (lv_at hl 0 rfl) ?_
          refine va_get (D := D) (ci := 5) (C := R_M) (T := F_M) (N := 19) hx hb hts in_M hown hK hP 0 rfl rfl 5 (by decide) (hts _ tb_374) (fun _ h9 => h9) rfl d_M_carryOut_42 ?_
          refine lv_iload_n hx hb d_M_carryOut_45 rfl (lv_at hl 1 rfl) ?_
          refine va_iald hx hb hK hP 5 0 rfl rfl hw.1 d_M_carryOut_46 ?_
          replace hw := hw.2
          refine lv_iload_n hx hb d_M_carryOut_47 rfl (lv_at hl 2 rfl) ?_
          refine lv_iadd hx hb d_M_carryOut_48 ?_
          refine va_iast hx hb hK hP hD hS 1 0 rfl rfl hw.1 d_M_carryOut_49 (fun H locs hP hD hS => ?_)
          replace hw := hw.2
          have hP : va_P D cls_ (wM a cI cZ (sA g 0 ((g.1 2 x1.toNatClampNeg) + x2).toNatClampNeg ((g.1 4 x1.toNatClampNeg) + x2))) H := pA_M_0 (g := g) (j := ((g.1 2 x1.toNatClampNeg) + x2).toNatClampNeg) (x := ((g.1 4 x1.toNatClampNeg) + x2)) hP
          have hD : va_D A (wM a cI cZ (sA g 0 ((g.1 2 x1.toNatClampNeg) + x2).toNatClampNeg ((g.1 4 x1.toNatClampNeg) + x2))) := dA_M_0 (g := g) (j := ((g.1 2 x1.toNatClampNeg) + x2).toNatClampNeg) (x := ((g.1 4 x1.toNatClampNeg) + x2)) hD
          generalize sA g 0 ((g.1 2 x1.toNatClampNeg) + x2).toNatClampNeg ((g.1 4 x1.toNatClampNeg) + x2) = g_49 at hw hP hD
          refine lv_goto (tgt := 77) hx hb d_M_carryOut_50 (by decide) ?_
          refine lv_iinc (k := 2) (v := x2 + 1) (lv' := [(2, .int (x2 + 1)), (0, .ref (a 0)), (1, .int x1)]) hx hb d_M_carryOut_77 hl rfl rfl (by decide) rfl (fun ls hl => ?_)
          refine lv_goto (tgt := 9) hx hb d_M_carryOut_80 (by decide) ?_
          exact ih_9 g_49 x1 (x2 + 1) _ _ _ hP hD hS (lv_sub hl [1, 2, 0] rfl) hw
  unfold wp_M_carryOut at hw
  refine lv_aload_n hx hb d_M_carryOut_0 rfl (lv_at hl 0 rfl) ?_
  refine va_get (D := D) (ci := 5) (C := R_M) (T := F_M) (N := 19) hx hb hts in_M hown hK hP 0 rfl rfl 7 (by decide) (hts _ tb_376) (fun _ h9 => h9) rfl d_M_carryOut_1 ?_
  refine lv_iload_n hx hb d_M_carryOut_4 rfl (lv_at hl 1 rfl) ?_
  refine lv_iconst (v := 2) hx hb d_M_carryOut_5 (by decide) ?_
  refine va_iast hx hb hK hP hD hS 7 0 rfl rfl hw.1 d_M_carryOut_6 (fun H locs hP hD hS => ?_)
  replace hw := hw.2
  have hP : va_P D cls_ (wM a cI cZ (sA g 6 x1.toNatClampNeg 2)) H := pA_M_6 (g := g) (j := x1.toNatClampNeg) (x := 2) hP
  have hD : va_D A (wM a cI cZ (sA g 6 x1.toNatClampNeg 2)) := dA_M_6 (g := g) (j := x1.toNatClampNeg) (x := 2) hD
  generalize sA g 6 x1.toNatClampNeg 2 = g_6 at hw hP hD
  refine lv_iconst (v := 0) hx hb d_M_carryOut_7 (by decide) ?_
  refine lv_istore_n (lv' := [(2, .int 0), (0, .ref (a 0)), (1, .int x1)]) hx hb d_M_carryOut_8 rfl hl (by decide) rfl (fun ls hl => ?_)
  obtain ⟨n, hw⟩ := hw
  exact k_9 n g_6 x1 0 _ _ _ hP hD hS (lv_sub hl [1, 2, 0] rfl) hw
set_option maxHeartbeats 4000000 in
set_option maxRecDepth 100000 in
theorem c_M_dispatch (l : Launch) (D : va_G) (a : Nat → Nat) (cI cZ : ClassId) (sz : Nat) (g : St) (Q : Int32 → St → Prop) (hw : wp_M_dispatch g Q) : MT_i l y_M_dispatch b_M_dispatch 4 rm_M_dispatch (wM a cI cZ) D (ty_ cI cZ) sz g [.ref (a 0)] Q := by
  refine MTi_of (by decide +kernel) (Nat.le_of_ble_eq_true rfl) ?_
  intro p e s m args below meth c A Qt ls hx hb hml hts hown hN hK hP hD hA hl hret
  have hS : va_S A s.heap s.heap [] := va_S.rf
  have hl : lv_has ls 4 [(0, .ref (a 0))] := hl
  have k_94 : ∀ (n : Nat) (g : St) (x1 : Int32) (x2 : Int32) (x3 : Int32) (H : Heap) (locs : List Loc) (ls : Array Slot), va_P D cls_ (wM a cI cZ g) H → va_D A (wM a cI cZ g) → va_S A s.heap H locs → lv_has ls 4 [(0, .ref (a 0)), (1, .int x1), (2, .int x2), (3, .int x3)] → wl_M_dispatch_94 Q n g x1 x2 x3 → W p l e rm_M_dispatch s m args below meth c H locs 0 0 Qt (F0 m 94 ls []) := by
    intro n
    induction n with
    | zero => intro g x1 x2 x3 H locs ls hP hD hS hl hw; exact False.elim hw
    | succ n_94 ih_94 =>
      intro g x1 x2 x3 H locs ls hP hD hS hl hw
      unfold wl_M_dispatch_94 at hw
      refine lv_iload_n hx hb d_M_dispatch_94 rfl (lv_at hl 3 rfl) ?_
      refine lv_aload_n hx hb d_M_dispatch_95 rfl (lv_at hl 0 rfl) ?_
      refine va_get (D := D) (ci := 5) (C := R_M) (T := F_M) (N := 19) hx hb hts in_M hown hK hP 0 rfl rfl 1 (by decide) (hts _ tb_370) (fun _ h9 => h9) rfl d_M_dispatch_96 ?_
      refine lv_icmp_ge (tgt := 127) hx hb d_M_dispatch_99 (by decide) (fun hc => ?_) (fun hc => ?_)
      · replace hw := hw.1 hc
        refine lv_iload_n hx hb d_M_dispatch_127 rfl (lv_at hl 2 rfl) ?_
        exact hret _ _ _ _ _ _ hw hP hD hS d_M_dispatch_128
      · replace hw := hw.2 hc
        refine lv_aload_n hx hb d_M_dispatch_102 rfl (lv_at hl 0 rfl) ?_
        refine va_get (D := D) (ci := 5) (C := R_M) (T := F_M) (N := 19) hx hb hts in_M hown hK hP 0 rfl rfl 6 (by decide) (hts _ tb_375) (fun _ h9 => h9) rfl d_M_dispatch_103 ?_
        refine lv_iload_n hx hb d_M_dispatch_106 rfl (lv_at hl 3 rfl) ?_
        refine va_iald hx hb hK hP 6 0 rfl rfl hw.1 d_M_dispatch_107 ?_
        replace hw := hw.2
        refine lv_iload_n hx hb d_M_dispatch_108 rfl (lv_at hl 1 rfl) ?_
        refine lv_icmp_ne (tgt := 121) hx hb d_M_dispatch_109 (by decide) (fun hc => ?_) (fun hc => ?_)
        · replace hw := hw.1 hc
          refine lv_iinc (k := 3) (v := x3 + 1) (lv' := [(3, .int (x3 + 1)), (0, .ref (a 0)), (1, .int x1), (2, .int x2)]) hx hb d_M_dispatch_121 hl rfl rfl (by decide) rfl (fun ls hl => ?_)
          refine lv_goto (tgt := 94) hx hb d_M_dispatch_124 (by decide) ?_
          exact ih_94 g x1 x2 (x3 + 1) _ _ _ hP hD hS (lv_sub hl [1, 2, 3, 0] rfl) hw
        · replace hw := hw.2 hc
          refine lv_aload_n hx hb d_M_dispatch_112 rfl (lv_at hl 0 rfl) ?_
          refine lv_iload_n hx hb d_M_dispatch_113 rfl (lv_at hl 3 rfl) ?_
          refine aft_v (va_runV (As := [.int x3]) (rest := []) ⟨hx, hb, hml, hown, hts⟩ (c_M_carryOut l D a cI cZ _ g x3 _ hw) ⟨(callB_of 1 hts good_M_carryOut rfl rfl rfl (hts _ tb_6) (hts _ tb_504) hd_M_carryOut ⟨Nat.le_of_ble_eq_true rfl, Nat.le_of_ble_eq_true rfl⟩), hts _ tb_506, hts _ ts_39⟩ (preV 0 5 hP hD hK hN rfl rfl) rfl rfl hl.1 rfl (lv_room (Nat.le_of_ble_eq_true rfl)) d_M_dispatch_114 ⟨Nat.zero_le _, Nat.zero_le _⟩) hD hS hA hK (fun u114 H locs hw hP hD hS => ?_)
          refine lv_iload_n hx hb d_M_dispatch_117 rfl (lv_at hl 2 rfl) ?_
          refine lv_iconst (v := 1) hx hb d_M_dispatch_118 (by decide) ?_
          refine lv_iadd hx hb d_M_dispatch_119 ?_
          refine lv_istore_n (lv' := [(2, .int (x2 + 1)), (0, .ref (a 0)), (1, .int x1), (3, .int x3)]) hx hb d_M_dispatch_120 rfl hl (by decide) rfl (fun ls hl => ?_)
          refine lv_iinc (k := 3) (v := x3 + 1) (lv' := [(3, .int (x3 + 1)), (2, .int (x2 + 1)), (0, .ref (a 0)), (1, .int x1)]) hx hb d_M_dispatch_121 hl rfl rfl (by decide) rfl (fun ls hl => ?_)
          refine lv_goto (tgt := 94) hx hb d_M_dispatch_124 (by decide) ?_
          exact ih_94 u114 x1 (x2 + 1) (x3 + 1) _ _ _ hP hD hS (lv_sub hl [2, 3, 1, 0] rfl) hw
  have k_70 : ∀ (g : St) (x1 : Int32) (H : Heap) (locs : List Loc) (ls : Array Slot), va_P D cls_ (wM a cI cZ g) H → va_D A (wM a cI cZ g) → va_S A s.heap H locs → lv_has ls 4 [(0, .ref (a 0)), (1, .int x1)] → wb_M_dispatch_70 Q g x1 → W p l e rm_M_dispatch s m args below meth c H locs 0 0 Qt (F0 m 70 ls []) := by
    intro g x1 H locs ls hP hD hS hl hw
    unfold wb_M_dispatch_70 at hw
    refine lv_aload_n hx hb d_M_dispatch_70 rfl (lv_at hl 0 rfl) ?_
    refine lv_aload_n hx hb d_M_dispatch_71 rfl (lv_at hl 0 rfl) ?_
    refine lv_iload_n hx hb d_M_dispatch_72 rfl (lv_at hl 1 rfl) ?_
    refine aft_i (va_runV (As := [.int x1]) (rest := [.ref (a 0)]) ⟨hx, hb, hml, hown, hts⟩ (c_M_start l D a cI cZ _ g x1 _ hw) ⟨(callB_of 1 hts good_M_start rfl rfl rfl (hts _ tb_6) (hts _ tb_459) hd_M_start ⟨Nat.le_of_ble_eq_true rfl, Nat.le_of_ble_eq_true rfl⟩), hts _ tb_461, hts _ ts_34⟩ (preV 0 5 hP hD hK hN rfl rfl) rfl rfl hl.1 rfl (lv_room (Nat.le_of_ble_eq_true rfl)) d_M_dispatch_73 ⟨Nat.zero_le _, Nat.zero_le _⟩) hD hS hA hK (fun r73 u73 H locs hw hP hD hS => ?_)
    refine lv_aload_n hx hb d_M_dispatch_76 rfl (lv_at hl 0 rfl) ?_
    refine lv_iload_n hx hb d_M_dispatch_77 rfl (lv_at hl 1 rfl) ?_
    refine aft_i (va_runV (As := [.int x1]) (rest := [.int r73, .ref (a 0)]) ⟨hx, hb, hml, hown, hts⟩ (c_M_length l D a cI cZ _ u73 x1 _ hw) ⟨(callB_of 1 hts good_M_length rfl rfl rfl (hts _ tb_6) (hts _ tb_455) hd_M_length ⟨Nat.le_of_ble_eq_true rfl, Nat.le_of_ble_eq_true rfl⟩), hts _ tb_457, hts _ ts_33⟩ (preV 0 5 hP hD hK hN rfl rfl) rfl rfl hl.1 rfl (lv_room (Nat.le_of_ble_eq_true rfl)) d_M_dispatch_78 ⟨Nat.zero_le _, Nat.zero_le _⟩) hD hS hA hK (fun r78 u78 H locs hw hP hD hS => ?_)
    refine lv_iadd hx hb d_M_dispatch_81 ?_
    refine va_put (v := .int (r73 + r78)) (ty := .int) (D := D) (ci := 5) (C := R_M) (T := F_M) (N := 19) hx hb hts in_M t_M t_M_ok n_M hown hK hP hD hS 0 rfl rfl 14 (by decide) (hts _ tb_383) (fun _ h9 => h9) rfl (by decide +kernel) rfl rfl (Nat.le_of_ble_eq_true rfl) d_M_dispatch_82 (fun H locs hP hD hS => ?_)
    have hP : va_P D cls_ (wM a cI cZ (sI u78 3 (r73 + r78))) H := pI_M_3 (g := u78) (v := r73 + r78) hP
    have hD : va_D A (wM a cI cZ (sI u78 3 (r73 + r78))) := dI_M_3 (g := u78) (v := r73 + r78) hD
    generalize sI u78 3 (r73 + r78) = g_82 at hw hP hD
    refine lv_aload_n hx hb d_M_dispatch_85 rfl (lv_at hl 0 rfl) ?_
    refine lv_iload_n hx hb d_M_dispatch_86 rfl (lv_at hl 1 rfl) ?_
    refine va_put (v := .int x1) (ty := .int) (D := D) (ci := 5) (C := R_M) (T := F_M) (N := 19) hx hb hts in_M t_M t_M_ok n_M hown hK hP hD hS 0 rfl rfl 18 (by decide) (hts _ tb_387) (fun _ h9 => h9) rfl (by decide +kernel) rfl rfl (Nat.le_of_ble_eq_true rfl) d_M_dispatch_87 (fun H locs hP hD hS => ?_)
    have hP : va_P D cls_ (wM a cI cZ (sI g_82 7 x1)) H := pI_M_7 (g := g_82) (v := x1) hP
    have hD : va_D A (wM a cI cZ (sI g_82 7 x1)) := dI_M_7 (g := g_82) (v := x1) hD
    generalize sI g_82 7 x1 = g_87 at hw hP hD
    refine lv_iconst (v := 0) hx hb d_M_dispatch_90 (by decide) ?_
    refine lv_istore_n (lv' := [(2, .int 0), (0, .ref (a 0)), (1, .int x1)]) hx hb d_M_dispatch_91 rfl hl (by decide) rfl (fun ls hl => ?_)
    refine lv_iconst (v := 0) hx hb d_M_dispatch_92 (by decide) ?_
    refine lv_istore_n (lv' := [(3, .int 0), (2, .int 0), (0, .ref (a 0)), (1, .int x1)]) hx hb d_M_dispatch_93 rfl hl (by decide) rfl (fun ls hl => ?_)
    obtain ⟨n, hw⟩ := hw
    exact k_94 n g_87 x1 0 0 _ _ _ hP hD hS (lv_sub hl [2, 3, 1, 0] rfl) hw
  have k_47 : ∀ (g : St) (z0 : Int32) (H : Heap) (locs : List Loc) (ls : Array Slot), va_P D cls_ (wM a cI cZ g) H → va_D A (wM a cI cZ g) → va_S A s.heap H locs → lv_has ls 4 [(0, .ref (a 0))] → wb_M_dispatch_47 Q g z0 → W p l e rm_M_dispatch s m args below meth c H locs 0 0 Qt (F0 m 47 ls [.int z0]) := by
    intro g z0 H locs ls hP hD hS hl hw
    unfold wb_M_dispatch_47 at hw
    refine lv_istore_n (lv' := [(1, .int z0), (0, .ref (a 0))]) hx hb d_M_dispatch_47 rfl hl (by decide) rfl (fun ls hl => ?_)
    refine lv_iload_n hx hb d_M_dispatch_48 rfl (lv_at hl 0 rfl) ?_
    refine lv_if_lt (tgt := 65) hx hb d_M_dispatch_49 (by decide) (fun hc => ?_) (fun hc => ?_)
    · replace hw := hw.1 hc
      refine lv_aload_n hx hb d_M_dispatch_65 rfl (lv_at hl 1 rfl) ?_
      refine aft_i (va_runV (As := []) (rest := []) ⟨hx, hb, hml, hown, hts⟩ (c_M_fresh l D a cI cZ _ g _ hw) ⟨(callB_of 0 hts good_M_fresh rfl rfl rfl (hts _ tb_6) (hts _ tb_492) hd_M_fresh ⟨Nat.le_of_ble_eq_true rfl, Nat.le_of_ble_eq_true rfl⟩), hts _ tb_494, hts _ ts_37⟩ (preV 0 5 hP hD hK hN rfl rfl) rfl rfl hl.1 rfl (lv_room (Nat.le_of_ble_eq_true rfl)) d_M_dispatch_66 ⟨Nat.zero_le _, Nat.zero_le _⟩) hD hS hA hK (fun r66 u66 H locs hw hP hD hS => ?_)
      refine lv_istore_n (lv' := [(1, .int r66), (0, .ref (a 0))]) hx hb d_M_dispatch_69 rfl hl (by decide) rfl (fun ls hl => ?_)
      exact k_70 u66 r66 _ _ _ hP hD hS (lv_sub hl [1, 0] rfl) hw
    · replace hw := hw.2 hc
      refine lv_aload_n hx hb d_M_dispatch_52 rfl (lv_at hl 1 rfl) ?_
      refine lv_aload_n hx hb d_M_dispatch_53 rfl (lv_at hl 1 rfl) ?_
      refine va_get (D := D) (ci := 5) (C := R_M) (T := F_M) (N := 19) hx hb hts in_M hown hK hP 0 rfl rfl 16 (by decide) (hts _ tb_385) (fun _ h9 => h9) rfl d_M_dispatch_54 ?_
      refine lv_iconst (v := 1) hx hb d_M_dispatch_57 (by decide) ?_
      refine lv_iadd hx hb d_M_dispatch_58 ?_
      refine va_put (v := .int ((g.2.1 5) + 1)) (ty := .int) (D := D) (ci := 5) (C := R_M) (T := F_M) (N := 19) hx hb hts in_M t_M t_M_ok n_M hown hK hP hD hS 0 rfl rfl 16 (by decide) (hts _ tb_385) (fun _ h9 => h9) rfl (by decide +kernel) rfl rfl (Nat.le_of_ble_eq_true rfl) d_M_dispatch_59 (fun H locs hP hD hS => ?_)
      have hP : va_P D cls_ (wM a cI cZ (sI g 5 ((g.2.1 5) + 1))) H := pI_M_5 (g := g) (v := (g.2.1 5) + 1) hP
      have hD : va_D A (wM a cI cZ (sI g 5 ((g.2.1 5) + 1))) := dI_M_5 (g := g) (v := (g.2.1 5) + 1) hD
      generalize sI g 5 ((g.2.1 5) + 1) = g_59 at hw hP hD
      refine lv_goto (tgt := 70) hx hb d_M_dispatch_62 (by decide) ?_
      exact k_70 g_59 z0 _ _ _ hP hD hS (lv_sub hl [1, 0] rfl) hw
  unfold wp_M_dispatch at hw
  refine lv_aload_n hx hb d_M_dispatch_0 rfl (lv_at hl 0 rfl) ?_
  refine lv_iconst (v := 0) hx hb d_M_dispatch_1 (by decide) ?_
  refine aft_i (va_runV (As := [.int 0]) (rest := []) ⟨hx, hb, hml, hown, hts⟩ (c_M_waiting l D a cI cZ _ g 0 _ hw) ⟨(callB_of 1 hts good_M_waiting rfl rfl rfl (hts _ tb_6) (hts _ tb_435) hd_M_waiting ⟨Nat.le_of_ble_eq_true rfl, Nat.le_of_ble_eq_true rfl⟩), hts _ tb_436, hts _ tb_437⟩ (preV 0 5 hP hD hK hN rfl rfl) rfl rfl hl.1 rfl (lv_room (Nat.le_of_ble_eq_true rfl)) d_M_dispatch_2 ⟨Nat.zero_le _, Nat.zero_le _⟩) hD hS hA hK (fun r2 u2 H locs hw hP hD hS => ?_)
  refine lv_aload_n hx hb d_M_dispatch_5 rfl (lv_at hl 0 rfl) ?_
  refine lv_iconst (v := 1) hx hb d_M_dispatch_6 (by decide) ?_
  refine aft_i (va_runV (As := [.int 1]) (rest := [.int r2]) ⟨hx, hb, hml, hown, hts⟩ (c_M_waiting l D a cI cZ _ u2 1 _ hw) ⟨(callB_of 1 hts good_M_waiting rfl rfl rfl (hts _ tb_6) (hts _ tb_435) hd_M_waiting ⟨Nat.le_of_ble_eq_true rfl, Nat.le_of_ble_eq_true rfl⟩), hts _ tb_436, hts _ tb_437⟩ (preV 0 5 hP hD hK hN rfl rfl) rfl rfl hl.1 rfl (lv_room (Nat.le_of_ble_eq_true rfl)) d_M_dispatch_7 ⟨Nat.zero_le _, Nat.zero_le _⟩) hD hS hA hK (fun r7 u7 H locs hw hP hD hS => ?_)
  refine lv_iadd hx hb d_M_dispatch_10 ?_
  refine lv_if_ne (tgt := 16) hx hb d_M_dispatch_11 (by decide) (fun hc => ?_) (fun hc => ?_)
  · replace hw := hw.1 hc
    refine lv_aload_n hx hb d_M_dispatch_16 rfl (lv_at hl 0 rfl) ?_
    refine va_get (D := D) (ci := 5) (C := R_M) (T := F_M) (N := 19) hx hb hts in_M hown hK hP 0 rfl rfl 16 (by decide) (hts _ tb_385) (fun _ h9 => h9) rfl d_M_dispatch_17 ?_
    refine lv_if_le (tgt := 46) hx hb d_M_dispatch_20 (by decide) (fun hc => ?_) (fun hc => ?_)
    · replace hw := hw.1 hc
      refine lv_iconst (v := (-1)) hx hb d_M_dispatch_46 (by decide) ?_
      exact k_47 u7 (-1) _ _ _ hP hD hS (lv_sub hl [0] rfl) hw
    · replace hw := hw.2 hc
      refine lv_aload_n hx hb d_M_dispatch_23 rfl (lv_at hl 0 rfl) ?_
      refine va_get (D := D) (ci := 5) (C := R_M) (T := F_M) (N := 19) hx hb hts in_M hown hK hP 0 rfl rfl 16 (by decide) (hts _ tb_385) (fun _ h9 => h9) rfl d_M_dispatch_24 ?_
      refine lv_iconst (v := 4) hx hb d_M_dispatch_27 (by decide) ?_
      refine lv_icmp_ge (tgt := 46) hx hb d_M_dispatch_28 (by decide) (fun hc => ?_) (fun hc => ?_)
      · replace hw := hw.1 hc
        refine lv_iconst (v := (-1)) hx hb d_M_dispatch_46 (by decide) ?_
        exact k_47 u7 (-1) _ _ _ hP hD hS (lv_sub hl [0] rfl) hw
      · replace hw := hw.2 hc
        refine lv_aload_n hx hb d_M_dispatch_31 rfl (lv_at hl 0 rfl) ?_
        refine lv_aload_n hx hb d_M_dispatch_32 rfl (lv_at hl 0 rfl) ?_
        refine va_get (D := D) (ci := 5) (C := R_M) (T := F_M) (N := 19) hx hb hts in_M hown hK hP 0 rfl rfl 15 (by decide) (hts _ tb_384) (fun _ h9 => h9) rfl d_M_dispatch_33 ?_
        refine lv_aload_n hx hb d_M_dispatch_36 rfl (lv_at hl 0 rfl) ?_
        refine va_get (D := D) (ci := 5) (C := R_M) (T := F_M) (N := 19) hx hb hts in_M hown hK hP 0 rfl rfl 14 (by decide) (hts _ tb_383) (fun _ h9 => h9) rfl d_M_dispatch_37 ?_
        refine aft_i (va_runV (As := [.int (u7.2.1 4), .int (u7.2.1 3)]) (rest := []) ⟨hx, hb, hml, hown, hts⟩ (c_M_sweep l D a cI cZ _ u7 (u7.2.1 4) (u7.2.1 3) _ hw) ⟨(callB_of 2 hts good_M_sweep rfl rfl rfl (hts _ tb_6) (hts _ tb_484) hd_M_sweep ⟨Nat.le_of_ble_eq_true rfl, Nat.le_of_ble_eq_true rfl⟩), hts _ tb_486, hts _ ts_35⟩ (preV 0 5 hP hD hK hN rfl rfl) rfl rfl hl.1 rfl (lv_room (Nat.le_of_ble_eq_true rfl)) d_M_dispatch_40 ⟨Nat.zero_le _, Nat.zero_le _⟩) hD hS hA hK (fun r40 u40 H locs hw hP hD hS => ?_)
        refine lv_goto (tgt := 47) hx hb d_M_dispatch_43 (by decide) ?_
        exact k_47 u40 r40 _ _ _ hP hD hS (lv_sub hl [0] rfl) hw
  · replace hw := hw.2 hc
    refine lv_iconst (v := 0) hx hb d_M_dispatch_14 (by decide) ?_
    exact hret _ _ _ _ _ _ hw hP hD hS d_M_dispatch_15
set_option maxHeartbeats 4000000 in
set_option maxRecDepth 100000 in
theorem c_M_isPart (l : Launch) (D : va_G) (a : Nat → Nat) (cI cZ : ClassId) (sz : Nat) (g : St) (x1 : Int32) (Q : Int32 → St → Prop) (hw : wp_M_isPart g x1 Q) : MT_z l y_M_isPart b_M_isPart 2 rm_M_isPart (wM a cI cZ) D (ty_ cI cZ) sz g [.ref (a 0), .int x1] Q := by
  refine MTz_of (by decide +kernel) (Nat.le_of_ble_eq_true rfl) ?_
  intro p e s m args below meth c A Qt ls hx hb hml hts hown hN hK hP hD hA hl hret
  have hS : va_S A s.heap s.heap [] := va_S.rf
  have hl : lv_has ls 2 [(0, .ref (a 0)), (1, .int x1)] := hl
  unfold wp_M_isPart at hw
  refine lv_iload_n hx hb d_M_isPart_0 rfl (lv_at hl 1 rfl) ?_
  refine lv_if_lt (tgt := 16) hx hb d_M_isPart_1 (by decide) (fun hc => ?_) (fun hc => ?_)
  · replace hw := hw.1 hc
    refine lv_iconst (v := 0) hx hb d_M_isPart_16 (by decide) ?_
    exact hret _ _ _ _ _ _ rfl hw hP hD hS d_M_isPart_17
  · replace hw := hw.2 hc
    refine lv_iload_n hx hb d_M_isPart_4 rfl (lv_at hl 1 rfl) ?_
    refine lv_aload_n hx hb d_M_isPart_5 rfl (lv_at hl 0 rfl) ?_
    refine va_get (D := D) (ci := 5) (C := R_M) (T := F_M) (N := 19) hx hb hts in_M hown hK hP 0 rfl rfl 1 (by decide) (hts _ tb_370) (fun _ h9 => h9) rfl d_M_isPart_6 ?_
    refine lv_icmp_ge (tgt := 16) hx hb d_M_isPart_9 (by decide) (fun hc => ?_) (fun hc => ?_)
    · replace hw := hw.1 hc
      refine lv_iconst (v := 0) hx hb d_M_isPart_16 (by decide) ?_
      exact hret _ _ _ _ _ _ rfl hw hP hD hS d_M_isPart_17
    · replace hw := hw.2 hc
      refine lv_iconst (v := 1) hx hb d_M_isPart_12 (by decide) ?_
      refine lv_goto (tgt := 17) hx hb d_M_isPart_13 (by decide) ?_
      exact hret _ _ _ _ _ _ rfl hw hP hD hS d_M_isPart_17
set_option maxHeartbeats 4000000 in
set_option maxRecDepth 100000 in
theorem c_M_state (l : Launch) (D : va_G) (a : Nat → Nat) (cI cZ : ClassId) (sz : Nat) (g : St) (x1 : Int32) (Q : Int32 → St → Prop) (hw : wp_M_state g x1 Q) : MT_i l y_M_state b_M_state 2 rm_M_state (wM a cI cZ) D (ty_ cI cZ) sz g [.ref (a 0), .int x1] Q := by
  refine MTi_of (by decide +kernel) (Nat.le_of_ble_eq_true rfl) ?_
  intro p e s m args below meth c A Qt ls hx hb hml hts hown hN hK hP hD hA hl hret
  have hS : va_S A s.heap s.heap [] := va_S.rf
  have hl : lv_has ls 2 [(0, .ref (a 0)), (1, .int x1)] := hl
  unfold wp_M_state at hw
  refine lv_aload_n hx hb d_M_state_0 rfl (lv_at hl 0 rfl) ?_
  refine lv_iload_n hx hb d_M_state_1 rfl (lv_at hl 1 rfl) ?_
  refine aft_i (va_runV (As := [.int x1]) (rest := []) ⟨hx, hb, hml, hown, hts⟩ (c_M_isPart l D a cI cZ _ g x1 _ hw) ⟨(callB_of 1 hts good_M_isPart rfl rfl rfl (hts _ tb_6) (hts _ tb_512) hd_M_isPart ⟨Nat.le_of_ble_eq_true rfl, Nat.le_of_ble_eq_true rfl⟩), hts _ tb_514, hts _ ts_40⟩ (preV 0 5 hP hD hK hN rfl rfl) rfl rfl hl.1 rfl (lv_room (Nat.le_of_ble_eq_true rfl)) d_M_state_2 ⟨Nat.zero_le _, Nat.zero_le _⟩) hD hS hA hK (fun r2 u2 H locs hw hP hD hS => ?_)
  refine lv_if_eq (tgt := 17) hx hb d_M_state_5 (by decide) (fun hc => ?_) (fun hc => ?_)
  · replace hw := hw.1 hc
    refine lv_iconst (v := 0) hx hb d_M_state_17 (by decide) ?_
    exact hret _ _ _ _ _ _ hw hP hD hS d_M_state_18
  · replace hw := hw.2 hc
    refine lv_aload_n hx hb d_M_state_8 rfl (lv_at hl 0 rfl) ?_
    refine va_get (D := D) (ci := 5) (C := R_M) (T := F_M) (N := 19) hx hb hts in_M hown hK hP 0 rfl rfl 7 (by decide) (hts _ tb_376) (fun _ h9 => h9) rfl d_M_state_9 ?_
    refine lv_iload_n hx hb d_M_state_12 rfl (lv_at hl 1 rfl) ?_
    refine va_iald hx hb hK hP 7 0 rfl rfl hw.1 d_M_state_13 ?_
    replace hw := hw.2
    refine lv_goto (tgt := 18) hx hb d_M_state_14 (by decide) ?_
    exact hret _ _ _ _ _ _ hw hP hD hS d_M_state_18
