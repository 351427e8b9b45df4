set_option maxHeartbeats 4000000 in
set_option maxRecDepth 100000 in
theorem c_R_markLeastGroup (l : Launch) (D : va_G) (a : Nat → Nat) (cI cZ : ClassId) (sz : Nat) (g : St) (Q : St → Prop) (hw : wp_R_markLeastGroup g Q) : MT_v l y_R_markLeastGroup b_R_markLeastGroup 2 rm_R_markLeastGroup (wE a cI cZ) D (ty_ cI cZ) sz g [.ref (a 9)] Q := by
  refine MTv_of (by decide +kernel) (Nat.le_of_ble_eq_true rfl) ?_
  intro p e s m args below meth c A Qt ls hx hb hml hts hown hN hK hP hD hA hl hret
  have hS : va_S A s.heap s.heap [] := va_S.rf
  have hl : lv_has ls 2 [(0, .ref (a 9))] := hl
  have k_2 : ∀ (n : Nat) (g : St) (x1 : Int32) (H : Heap) (locs : List Loc) (ls : Array Slot), va_P D cls_ (wE a cI cZ g) H → va_D A (wE a cI cZ g) → va_S A s.heap H locs → lv_has ls 2 [(0, .ref (a 9)), (1, .int x1)] → wl_R_markLeastGroup_2 Q n g x1 → W p l e rm_R_markLeastGroup s m args below meth c H locs 0 0 Qt (F0 m 2 ls []) := by
    intro n
    induction n with
    | zero => intro g x1 H locs ls hP hD hS hl hw; exact False.elim hw
    | succ n_2 ih_2 =>
      intro g x1 H locs ls hP hD hS hl hw
      unfold wl_R_markLeastGroup_2 at hw
      refine lv_iload_n hx hb d_R_markLeastGroup_2 rfl (lv_at hl 1 rfl) ?_
      refine lv_aload_n hx hb d_R_markLeastGroup_3 rfl (lv_at hl 0 rfl) ?_
      refine va_get (D := D) (ci := 3) (C := R_R) (T := F_R) (N := 9) hx hb hts in_R hown hK hP 9 rfl rfl 8 (by decide) (hts _ tb_75) (fun _ h9 => h9) rfl d_R_markLeastGroup_4 ?_
      refine lv_icmp_ge (tgt := 57) hx hb d_R_markLeastGroup_7 (by decide) (fun hc => ?_) (fun hc => ?_)
      · replace hw := hw.1 hc
        exact hret _ _ _ _ _ hw hP hD hS d_R_markLeastGroup_57
      · replace hw := hw.2 hc
        refine lv_aload_n hx hb d_R_markLeastGroup_10 rfl (lv_at hl 0 rfl) ?_
        refine va_get (D := D) (ci := 3) (C := R_R) (T := F_R) (N := 9) hx hb hts in_R hown hK hP 9 rfl rfl 6 (by decide) (hts _ tb_71) (fun _ h9 => h9) rfl d_R_markLeastGroup_11 ?_
        refine lv_aload_n hx hb d_R_markLeastGroup_14 rfl (lv_at hl 0 rfl) ?_
        refine va_get (D := D) (ci := 3) (C := R_R) (T := F_R) (N := 9) hx hb hts in_R hown hK hP 9 rfl rfl 7 (by decide) (hts _ tb_73) (fun _ h9 => h9) rfl d_R_markLeastGroup_15 ?_
        refine lv_iload_n hx hb d_R_markLeastGroup_18 rfl (lv_at hl 1 rfl) ?_
        refine va_iald hx hb hK hP 17 0 rfl rfl hw.1 d_R_markLeastGroup_19 ?_
        replace hw := hw.2
        refine lv_aload_n hx hb d_R_markLeastGroup_20 rfl (lv_at hl 0 rfl) ?_
        refine va_get (D := D) (ci := 3) (C := R_R) (T := F_R) (N := 9) hx hb hts in_R hown hK hP 9 rfl rfl 5 (by decide) (hts _ tb_69) (fun _ h9 => h9) rfl d_R_markLeastGroup_21 ?_
        refine lv_aload_n hx hb d_R_markLeastGroup_24 rfl (lv_at hl 0 rfl) ?_
        refine va_get (D := D) (ci := 3) (C := R_R) (T := F_R) (N := 9) hx hb hts in_R hown hK hP 9 rfl rfl 7 (by decide) (hts _ tb_73) (fun _ h9 => h9) rfl d_R_markLeastGroup_25 ?_
        refine lv_iload_n hx hb d_R_markLeastGroup_28 rfl (lv_at hl 1 rfl) ?_
        refine va_iald hx hb hK hP 17 0 rfl rfl hw.1 d_R_markLeastGroup_29 ?_
        replace hw := hw.2
        refine va_iald hx hb hK hP 15 0 rfl rfl hw.1 d_R_markLeastGroup_30 ?_
        replace hw := hw.2
        refine lv_aload_n hx hb d_R_markLeastGroup_31 rfl (lv_at hl 0 rfl) ?_
        refine va_get (D := D) (ci := 3) (C := R_R) (T := F_R) (N := 9) hx hb hts in_R hown hK hP 9 rfl rfl 5 (by decide) (hts _ tb_69) (fun _ h9 => h9) rfl d_R_markLeastGroup_32 ?_
        refine lv_aload_n hx hb d_R_markLeastGroup_35 rfl (lv_at hl 0 rfl) ?_
        refine va_get (D := D) (ci := 3) (C := R_R) (T := F_R) (N := 9) hx hb hts in_R hown hK hP 9 rfl rfl 7 (by decide) (hts _ tb_73) (fun _ h9 => h9) rfl d_R_markLeastGroup_36 ?_
        refine lv_iconst (v := 0) hx hb d_R_markLeastGroup_39 (by decide) ?_
        refine va_iald hx hb hK hP 17 0 rfl rfl hw.1 d_R_markLeastGroup_40 ?_
        replace hw := hw.2
        refine va_iald hx hb hK hP 15 0 rfl rfl hw.1 d_R_markLeastGroup_41 ?_
        replace hw := hw.2
        refine lv_icmp_ne (tgt := 49) hx hb d_R_markLeastGroup_42 (by decide) (fun hc => ?_) (fun hc => ?_)
        · replace hw := hw.1 hc
          refine lv_iconst (v := 0) hx hb d_R_markLeastGroup_49 (by decide) ?_
          refine va_zast hx hb hK hP hD hS 16 1 rfl rfl hw.1 d_R_markLeastGroup_50 (fun H locs hP hD hS => ?_)
          replace hw := hw.2
          have hP : va_P D cls_ (wE a cI cZ (sA g 13 (g.1 14 x1.toNatClampNeg).toNatClampNeg (vp_nar .boolean 0))) H := pA_E_13 (g := g) (j := (g.1 14 x1.toNatClampNeg).toNatClampNeg) (x := (vp_nar .boolean 0)) hP
          have hD : va_D A (wE a cI cZ (sA g 13 (g.1 14 x1.toNatClampNeg).toNatClampNeg (vp_nar .boolean 0))) := dA_E_13 (g := g) (j := (g.1 14 x1.toNatClampNeg).toNatClampNeg) (x := (vp_nar .boolean 0)) hD
          generalize sA g 13 (g.1 14 x1.toNatClampNeg).toNatClampNeg (vp_nar .boolean 0) = g_50 at hw hP hD
          refine lv_iinc (k := 1) (v := x1 + 1) (lv' := [(1, .int (x1 + 1)), (0, .ref (a 9))]) hx hb d_R_markLeastGroup_51 hl rfl rfl (by decide) rfl (fun ls hl => ?_)
          refine lv_goto (tgt := 2) hx hb d_R_markLeastGroup_54 (by decide) ?_
          exact ih_2 g_50 (x1 + 1) _ _ _ hP hD hS (lv_sub hl [1, 0] rfl) hw
        · replace hw := hw.2 hc
          refine lv_iconst (v := 1) hx hb d_R_markLeastGroup_45 (by decide) ?_
          refine lv_goto (tgt := 50) hx hb d_R_markLeastGroup_46 (by decide) ?_
          refine va_zast hx hb hK hP hD hS 16 1 rfl rfl hw.1 d_R_markLeastGroup_50 (fun H locs hP hD hS => ?_)
          replace hw := hw.2
          have hP : va_P D cls_ (wE a cI cZ (sA g 13 (g.1 14 x1.toNatClampNeg).toNatClampNeg (vp_nar .boolean 1))) H := pA_E_13 (g := g) (j := (g.1 14 x1.toNatClampNeg).toNatClampNeg) (x := (vp_nar .boolean 1)) hP
          have hD : va_D A (wE a cI cZ (sA g 13 (g.1 14 x1.toNatClampNeg).toNatClampNeg (vp_nar .boolean 1))) := dA_E_13 (g := g) (j := (g.1 14 x1.toNatClampNeg).toNatClampNeg) (x := (vp_nar .boolean 1)) hD
          generalize sA g 13 (g.1 14 x1.toNatClampNeg).toNatClampNeg (vp_nar .boolean 1) = g_50 at hw hP hD
          refine lv_iinc (k := 1) (v := x1 + 1) (lv' := [(1, .int (x1 + 1)), (0, .ref (a 9))]) hx hb d_R_markLeastGroup_51 hl rfl rfl (by decide) rfl (fun ls hl => ?_)
          refine lv_goto (tgt := 2) hx hb d_R_markLeastGroup_54 (by decide) ?_
          exact ih_2 g_50 (x1 + 1) _ _ _ hP hD hS (lv_sub hl [1, 0] rfl) hw
  unfold wp_R_markLeastGroup at hw
  refine lv_iconst (v := 0) hx hb d_R_markLeastGroup_0 (by decide) ?_
  refine lv_istore_n (lv' := [(1, .int 0), (0, .ref (a 9))]) hx hb d_R_markLeastGroup_1 rfl hl (by decide) rfl (fun ls hl => ?_)
  obtain ⟨n, hw⟩ := hw
  exact k_2 n g 0 _ _ _ hP hD hS (lv_sub hl [1, 0] rfl) hw
set_option maxHeartbeats 4000000 in
set_option maxRecDepth 100000 in
theorem c_R_leastStart (l : Launch) (D : va_G) (a : Nat → Nat) (cI cZ : ClassId) (sz : Nat) (g : St) (x1 : Int32) (x2 : Int32) (Q : Int32 → St → Prop) (hw : wp_R_leastStart g x1 x2 Q) : MT_i l y_R_leastStart b_R_leastStart 6 rm_R_leastStart (wE a cI cZ) D (ty_ cI cZ) sz g [.ref (a 9), .int x1, .int x2] Q := by
  refine MTi_of (by decide +kernel) (Nat.le_of_ble_eq_true rfl) ?_
  intro p e s m args below meth c A Qt ls hx hb hml hts hown hN hK hP hD hA hl hret
  have hS : va_S A s.heap s.heap [] := va_S.rf
  have hl : lv_has ls 6 [(0, .ref (a 9)), (1, .int x1), (2, .int x2)] := hl
  have k_5 : ∀ (n : Nat) (g : St) (x1 : Int32) (x2 : Int32) (x3 : Int32) (x4 : Int32) (H : Heap) (locs : List Loc) (ls : Array Slot), va_P D cls_ (wE a cI cZ g) H → va_D A (wE a cI cZ g) → va_S A s.heap H locs → lv_has ls 6 [(0, .ref (a 9)), (1, .int x1), (2, .int x2), (3, .int x3), (4, .int x4)] → wl_R_leastStart_5 Q n g x1 x2 x3 x4 → W p l e rm_R_leastStart s m args below meth c H locs 0 0 Qt (F0 m 5 ls []) := by
    intro n
    induction n with
    | zero => intro g x1 x2 x3 x4 H locs ls hP hD hS hl hw; exact False.elim hw
    | succ n_5 ih_5 =>
      intro g x1 x2 x3 x4 H locs ls hP hD hS hl hw
      unfold wl_R_leastStart_5 at hw
      refine lv_iload hx hb d_R_leastStart_5 (lv_at hl 4 rfl) ?_
      refine lv_aload_n hx hb d_R_leastStart_7 rfl (lv_at hl 0 rfl) ?_
      refine va_get (D := D) (ci := 3) (C := R_R) (T := F_R) (N := 9) hx hb hts in_R hown hK hP 9 rfl rfl 8 (by decide) (hts _ tb_75) (fun _ h9 => h9) rfl d_R_leastStart_8 ?_
      refine lv_icmp_ge (tgt := 74) hx hb d_R_leastStart_11 (by decide) (fun hc => ?_) (fun hc => ?_)
      · replace hw := hw.1 hc
        refine lv_iload_n hx hb d_R_leastStart_74 rfl (lv_at hl 3 rfl) ?_
        exact hret _ _ _ _ _ _ hw hP hD hS d_R_leastStart_75
      · replace hw := hw.2 hc
        refine lv_aload_n hx hb d_R_leastStart_14 rfl (lv_at hl 0 rfl) ?_
        refine va_get (D := D) (ci := 3) (C := R_R) (T := F_R) (N := 9) hx hb hts in_R hown hK hP 9 rfl rfl 7 (by decide) (hts _ tb_73) (fun _ h9 => h9) rfl d_R_leastStart_15 ?_
        refine lv_iload hx hb d_R_leastStart_18 (lv_at hl 4 rfl) ?_
        refine va_iald hx hb hK hP 17 0 rfl rfl hw.1 d_R_leastStart_20 ?_
        replace hw := hw.2
        refine lv_istore (lv' := [(5, .int (g.1 14 x4.toNatClampNeg)), (0, .ref (a 9)), (1, .int x1), (2, .int x2), (3, .int x3), (4, .int x4)]) hx hb d_R_leastStart_21 hl (by decide) rfl (fun ls hl => ?_)
        refine lv_aload_n hx hb d_R_leastStart_23 rfl (lv_at hl 1 rfl) ?_
        refine lv_iload hx hb d_R_leastStart_24 (lv_at hl 0 rfl) ?_
        refine lv_iload_n hx hb d_R_leastStart_26 rfl (lv_at hl 2 rfl) ?_
        refine aft_i (va_runV (As := [.int (g.1 14 x4.toNatClampNeg), .int x1]) (rest := []) ⟨hx, hb, hml, hown, hts⟩ (c_R_isReady l D a cI cZ _ g (g.1 14 x4.toNatClampNeg) x1 _ hw) ⟨(callB_of 2 hts good_R_isReady rfl rfl rfl (hts _ tb_3) (hts _ tb_272) hd_R_isReady ⟨Nat.le_of_ble_eq_true rfl, Nat.le_of_ble_eq_true rfl⟩), hts _ tb_274, hts _ ts_18⟩ (preV 9 3 hP hD hK hN rfl rfl) rfl rfl hl.1 rfl (lv_room (Nat.le_of_ble_eq_true rfl)) d_R_leastStart_27 ⟨Nat.zero_le _, Nat.zero_le _⟩) hD hS hA hK (fun r27 u27 H locs hw hP hD hS => ?_)
        refine lv_if_eq (tgt := 68) hx hb d_R_leastStart_30 (by decide) (fun hc => ?_) (fun hc => ?_)
        · replace hw := hw.1 hc
          refine lv_iinc (k := 5) (v := x4 + 1) (lv' := [(4, .int (x4 + 1)), (5, .int (g.1 14 x4.toNatClampNeg)), (0, .ref (a 9)), (1, .int x1), (2, .int x2), (3, .int x3)]) hx hb d_R_leastStart_68 hl rfl rfl (by decide) rfl (fun ls hl => ?_)
          refine lv_goto (tgt := 5) hx hb d_R_leastStart_71 (by decide) ?_
          exact ih_5 u27 x1 x2 x3 (x4 + 1) _ _ _ hP hD hS (lv_sub hl [2, 3, 4, 5, 0] rfl) hw
        · replace hw := hw.2 hc
          refine lv_aload_n hx hb d_R_leastStart_33 rfl (lv_at hl 1 rfl) ?_
          refine va_get (D := D) (ci := 3) (C := R_R) (T := F_R) (N := 9) hx hb hts in_R hown hK hP 9 rfl rfl 1 (by decide) (hts _ tb_61) (fun _ h9 => h9) rfl d_R_leastStart_34 ?_
          refine lv_iload hx hb d_R_leastStart_37 (lv_at hl 0 rfl) ?_
          refine va_iald hx hb hK hP 11 0 rfl rfl hw.1 d_R_leastStart_39 ?_
          replace hw := hw.2
          refine lv_iload_n hx hb d_R_leastStart_40 rfl (lv_at hl 3 rfl) ?_
          refine lv_icmp_lt (tgt := 68) hx hb d_R_leastStart_41 (by decide) (fun hc => ?_) (fun hc => ?_)
          · replace hw := hw.1 hc
            refine lv_iinc (k := 5) (v := x4 + 1) (lv' := [(4, .int (x4 + 1)), (5, .int (g.1 14 x4.toNatClampNeg)), (0, .ref (a 9)), (1, .int x1), (2, .int x2), (3, .int x3)]) hx hb d_R_leastStart_68 hl rfl rfl (by decide) rfl (fun ls hl => ?_)
            refine lv_goto (tgt := 5) hx hb d_R_leastStart_71 (by decide) ?_
            exact ih_5 u27 x1 x2 x3 (x4 + 1) _ _ _ hP hD hS (lv_sub hl [2, 3, 4, 5, 0] rfl) hw
          · replace hw := hw.2 hc
            refine lv_iload_n hx hb d_R_leastStart_44 rfl (lv_at hl 4 rfl) ?_
            refine lv_iconst (v := (-1)) hx hb d_R_leastStart_45 (by decide) ?_
            refine lv_icmp_eq (tgt := 65) hx hb d_R_leastStart_46 (by decide) (fun hc => ?_) (fun hc => ?_)
            · replace hw := hw.1 hc
              refine lv_iload hx hb d_R_leastStart_65 (lv_at hl 0 rfl) ?_
              refine lv_istore_n (lv' := [(3, .int (g.1 14 x4.toNatClampNeg)), (5, .int (g.1 14 x4.toNatClampNeg)), (0, .ref (a 9)), (1, .int x1), (2, .int x2), (4, .int x4)]) hx hb d_R_leastStart_67 rfl hl (by decide) rfl (fun ls hl => ?_)
              refine lv_iinc (k := 5) (v := x4 + 1) (lv' := [(4, .int (x4 + 1)), (3, .int (g.1 14 x4.toNatClampNeg)), (5, .int (g.1 14 x4.toNatClampNeg)), (0, .ref (a 9)), (1, .int x1), (2, .int x2)]) hx hb d_R_leastStart_68 hl rfl rfl (by decide) rfl (fun ls hl => ?_)
              refine lv_goto (tgt := 5) hx hb d_R_leastStart_71 (by decide) ?_
              exact ih_5 u27 x1 x2 (g.1 14 x4.toNatClampNeg) (x4 + 1) _ _ _ hP hD hS (lv_sub hl [3, 4, 5, 1, 0] rfl) hw
            · replace hw := hw.2 hc
              refine lv_aload_n hx hb d_R_leastStart_49 rfl (lv_at hl 1 rfl) ?_
              refine va_get (D := D) (ci := 3) (C := R_R) (T := F_R) (N := 9) hx hb hts in_R hown hK hP 9 rfl rfl 1 (by decide) (hts _ tb_61) (fun _ h9 => h9) rfl d_R_leastStart_50 ?_
              refine lv_iload hx hb d_R_leastStart_53 (lv_at hl 0 rfl) ?_
              refine va_iald hx hb hK hP 11 0 rfl rfl hw.1 d_R_leastStart_55 ?_
              replace hw := hw.2
              refine lv_aload_n hx hb d_R_leastStart_56 rfl (lv_at hl 1 rfl) ?_
              refine va_get (D := D) (ci := 3) (C := R_R) (T := F_R) (N := 9) hx hb hts in_R hown hK hP 9 rfl rfl 1 (by decide) (hts _ tb_61) (fun _ h9 => h9) rfl d_R_leastStart_57 ?_
              refine lv_iload_n hx hb d_R_leastStart_60 rfl (lv_at hl 4 rfl) ?_
              refine va_iald hx hb hK hP 11 0 rfl rfl hw.1 d_R_leastStart_61 ?_
              replace hw := hw.2
              refine lv_icmp_ge (tgt := 68) hx hb d_R_leastStart_62 (by decide) (fun hc => ?_) (fun hc => ?_)
              · replace hw := hw.1 hc
                refine lv_iinc (k := 5) (v := x4 + 1) (lv' := [(4, .int (x4 + 1)), (5, .int (g.1 14 x4.toNatClampNeg)), (0, .ref (a 9)), (1, .int x1), (2, .int x2), (3, .int x3)]) hx hb d_R_leastStart_68 hl rfl rfl (by decide) rfl (fun ls hl => ?_)
                refine lv_goto (tgt := 5) hx hb d_R_leastStart_71 (by decide) ?_
                exact ih_5 u27 x1 x2 x3 (x4 + 1) _ _ _ hP hD hS (lv_sub hl [2, 3, 4, 5, 0] rfl) hw
              · replace hw := hw.2 hc
                refine lv_iload hx hb d_R_leastStart_65 (lv_at hl 0 rfl) ?_
                refine lv_istore_n (lv' := [(3, .int (g.1 14 x4.toNatClampNeg)), (5, .int (g.1 14 x4.toNatClampNeg)), (0, .ref (a 9)), (1, .int x1), (2, .int x2), (4, .int x4)]) hx hb d_R_leastStart_67 rfl hl (by decide) rfl (fun ls hl => ?_)
                refine lv_iinc (k := 5) (v := x4 + 1) (lv' := [(4, .int (x4 + 1)), (3, .int (g.1 14 x4.toNatClampNeg)), (5, .int (g.1 14 x4.toNatClampNeg)), (0, .ref (a 9)), (1, .int x1), (2, .int x2)]) hx hb d_R_leastStart_68 hl rfl rfl (by decide) rfl (fun ls hl => ?_)
                refine lv_goto (tgt := 5) hx hb d_R_leastStart_71 (by decide) ?_
                exact ih_5 u27 x1 x2 (g.1 14 x4.toNatClampNeg) (x4 + 1) _ _ _ hP hD hS (lv_sub hl [3, 4, 5, 1, 0] rfl) hw
  unfold wp_R_leastStart at hw
  refine lv_iconst (v := (-1)) hx hb d_R_leastStart_0 (by decide) ?_
  refine lv_istore_n (lv' := [(3, .int (-1)), (0, .ref (a 9)), (1, .int x1), (2, .int x2)]) hx hb d_R_leastStart_1 rfl hl (by decide) rfl (fun ls hl => ?_)
  refine lv_iconst (v := 0) hx hb d_R_leastStart_2 (by decide) ?_
  refine lv_istore (lv' := [(4, .int 0), (3, .int (-1)), (0, .ref (a 9)), (1, .int x1), (2, .int x2)]) hx hb d_R_leastStart_3 hl (by decide) rfl (fun ls hl => ?_)
  obtain ⟨n, hw⟩ := hw
  exact k_5 n g x1 x2 (-1) 0 _ _ _ hP hD hS (lv_sub hl [2, 3, 4, 1, 0] rfl) hw
set_option maxHeartbeats 4000000 in
set_option maxRecDepth 100000 in
theorem c_R_hasReady (l : Launch) (D : va_G) (a : Nat → Nat) (cI cZ : ClassId) (sz : Nat) (g : St) (x1 : Int32) (Q : Int32 → St → Prop) (hw : wp_R_hasReady g x1 Q) : MT_z l y_R_hasReady b_R_hasReady 2 rm_R_hasReady (wE a cI cZ) D (ty_ cI cZ) sz g [.ref (a 9), .int x1] Q := by
  refine MTz_of (by decide +kernel) (Nat.le_of_ble_eq_true rfl) ?_
  intro p e s m args below meth c A Qt ls hx hb hml hts hown hN hK hP hD hA hl hret
  have hS : va_S A s.heap s.heap [] := va_S.rf
  have hl : lv_has ls 2 [(0, .ref (a 9)), (1, .int x1)] := hl
  unfold wp_R_hasReady at hw
  refine lv_aload_n hx hb d_R_hasReady_0 rfl (lv_at hl 0 rfl) ?_
  refine lv_iload_n hx hb d_R_hasReady_1 rfl (lv_at hl 1 rfl) ?_
  refine lv_iconst (v := 0) hx hb d_R_hasReady_2 (by decide) ?_
  refine aft_i (va_runV (As := [.int x1, .int 0]) (rest := []) ⟨hx, hb, hml, hown, hts⟩ (c_R_leastStart l D a cI cZ _ g x1 0 _ hw) ⟨(callB_of 2 hts good_R_leastStart rfl rfl rfl (hts _ tb_3) (hts _ tb_280) hd_R_leastStart ⟨Nat.le_of_ble_eq_true rfl, Nat.le_of_ble_eq_true rfl⟩), hts _ tb_270, hts _ ts_17⟩ (preV 9 3 hP hD hK hN rfl rfl) rfl rfl hl.1 rfl (lv_room (Nat.le_of_ble_eq_true rfl)) d_R_hasReady_3 ⟨Nat.zero_le _, Nat.zero_le _⟩) hD hS hA hK (fun r3 u3 H locs hw hP hD hS => ?_)
  refine lv_iconst (v := (-1)) hx hb d_R_hasReady_6 (by decide) ?_
  refine lv_icmp_eq (tgt := 14) hx hb d_R_hasReady_7 (by decide) (fun hc => ?_) (fun hc => ?_)
  · replace hw := hw.1 hc
    refine lv_iconst (v := 0) hx hb d_R_hasReady_14 (by decide) ?_
    exact hret _ _ _ _ _ _ rfl hw hP hD hS d_R_hasReady_15
  · replace hw := hw.2 hc
    refine lv_iconst (v := 1) hx hb d_R_hasReady_10 (by decide) ?_
    refine lv_goto (tgt := 15) hx hb d_R_hasReady_11 (by decide) ?_
    exact hret _ _ _ _ _ _ rfl hw hP hD hS d_R_hasReady_15
set_option maxHeartbeats 4000000 in
set_option maxRecDepth 100000 in
theorem c_R_leastExpired (l : Launch) (D : va_G) (a : Nat → Nat) (cI cZ : ClassId) (sz : Nat) (g : St) (x1 : Int32) (x2 : Int32) (Q : Int32 → St → Prop) (hw : wp_R_leastExpired g x1 x2 Q) : MT_i l y_R_leastExpired b_R_leastExpired 6 rm_R_leastExpired (wE a cI cZ) D (ty_ cI cZ) sz g [.ref (a 9), .int x1, .int x2] Q := by
  refine MTi_of (by decide +kernel) (Nat.le_of_ble_eq_true rfl) ?_
  intro p e s m args below meth c A Qt ls hx hb hml hts hown hN hK hP hD hA hl hret
  have hS : va_S A s.heap s.heap [] := va_S.rf
  have hl : lv_has ls 6 [(0, .ref (a 9)), (1, .int x1), (2, .int x2)] := hl
  have k_5 : ∀ (n : Nat) (g : St) (x1 : Int32) (x2 : Int32) (x3 : Int32) (x4 : Int32) (H : Heap) (locs : List Loc) (ls : Array Slot), va_P D cls_ (wE a cI cZ g) H → va_D A (wE a cI cZ g) → va_S A s.heap H locs → lv_has ls 6 [(0, .ref (a 9)), (1, .int x1), (2, .int x2), (3, .int x3), (4, .int x4)] → wl_R_leastExpired_5 Q n g x1 x2 x3 x4 → W p l e rm_R_leastExpired s m args below meth c H locs 0 0 Qt (F0 m 5 ls []) := by
    intro n
    induction n with
    | zero => intro g x1 x2 x3 x4 H locs ls hP hD hS hl hw; exact False.elim hw
    | succ n_5 ih_5 =>
      intro g x1 x2 x3 x4 H locs ls hP hD hS hl hw
      unfold wl_R_leastExpired_5 at hw
      refine lv_iload hx hb d_R_leastExpired_5 (lv_at hl 4 rfl) ?_
      refine lv_aload_n hx hb d_R_leastExpired_7 rfl (lv_at hl 0 rfl) ?_
      refine va_get (D := D) (ci := 3) (C := R_R) (T := F_R) (N := 9) hx hb hts in_R hown hK hP 9 rfl rfl 8 (by decide) (hts _ tb_75) (fun _ h9 => h9) rfl d_R_leastExpired_8 ?_
      refine lv_icmp_ge (tgt := 74) hx hb d_R_leastExpired_11 (by decide) (fun hc => ?_) (fun hc => ?_)
      · replace hw := hw.1 hc
        refine lv_iload_n hx hb d_R_leastExpired_74 rfl (lv_at hl 3 rfl) ?_
        exact hret _ _ _ _ _ _ hw hP hD hS d_R_leastExpired_75
      · replace hw := hw.2 hc
        refine lv_aload_n hx hb d_R_leastExpired_14 rfl (lv_at hl 0 rfl) ?_
        refine va_get (D := D) (ci := 3) (C := R_R) (T := F_R) (N := 9) hx hb hts in_R hown hK hP 9 rfl rfl 7 (by decide) (hts _ tb_73) (fun _ h9 => h9) rfl d_R_leastExpired_15 ?_
        refine lv_iload hx hb d_R_leastExpired_18 (lv_at hl 4 rfl) ?_
        refine va_iald hx hb hK hP 17 0 rfl rfl hw.1 d_R_leastExpired_20 ?_
        replace hw := hw.2
        refine lv_istore (lv' := [(5, .int (g.1 14 x4.toNatClampNeg)), (0, .ref (a 9)), (1, .int x1), (2, .int x2), (3, .int x3), (4, .int x4)]) hx hb d_R_leastExpired_21 hl (by decide) rfl (fun ls hl => ?_)
        refine lv_aload_n hx hb d_R_leastExpired_23 rfl (lv_at hl 1 rfl) ?_
        refine lv_iload hx hb d_R_leastExpired_24 (lv_at hl 0 rfl) ?_
        refine lv_iload_n hx hb d_R_leastExpired_26 rfl (lv_at hl 2 rfl) ?_
        refine aft_i (va_runV (As := [.int (g.1 14 x4.toNatClampNeg), .int x1]) (rest := []) ⟨hx, hb, hml, hown, hts⟩ (c_R_isReady l D a cI cZ _ g (g.1 14 x4.toNatClampNeg) x1 _ hw) ⟨(callB_of 2 hts good_R_isReady rfl rfl rfl (hts _ tb_3) (hts _ tb_272) hd_R_isReady ⟨Nat.le_of_ble_eq_true rfl, Nat.le_of_ble_eq_true rfl⟩), hts _ tb_274, hts _ ts_18⟩ (preV 9 3 hP hD hK hN rfl rfl) rfl rfl hl.1 rfl (lv_room (Nat.le_of_ble_eq_true rfl)) d_R_leastExpired_27 ⟨Nat.zero_le _, Nat.zero_le _⟩) hD hS hA hK (fun r27 u27 H locs hw hP hD hS => ?_)
        refine lv_if_eq (tgt := 68) hx hb d_R_leastExpired_30 (by decide) (fun hc => ?_) (fun hc => ?_)
        · replace hw := hw.1 hc
          refine lv_iinc (k := 5) (v := x4 + 1) (lv' := [(4, .int (x4 + 1)), (5, .int (g.1 14 x4.toNatClampNeg)), (0, .ref (a 9)), (1, .int x1), (2, .int x2), (3, .int x3)]) hx hb d_R_leastExpired_68 hl rfl rfl (by decide) rfl (fun ls hl => ?_)
          refine lv_goto (tgt := 5) hx hb d_R_leastExpired_71 (by decide) ?_
          exact ih_5 u27 x1 x2 x3 (x4 + 1) _ _ _ hP hD hS (lv_sub hl [2, 3, 4, 5, 0] rfl) hw
        · replace hw := hw.2 hc
          refine lv_aload_n hx hb d_R_leastExpired_33 rfl (lv_at hl 1 rfl) ?_
          refine va_get (D := D) (ci := 3) (C := R_R) (T := F_R) (N := 9) hx hb hts in_R hown hK hP 9 rfl rfl 4 (by decide) (hts _ tb_67) (fun _ h9 => h9) rfl d_R_leastExpired_34 ?_
          refine lv_iload hx hb d_R_leastExpired_37 (lv_at hl 0 rfl) ?_
          refine va_iald hx hb hK hP 14 0 rfl rfl hw.1 d_R_leastExpired_39 ?_
          replace hw := hw.2
          refine lv_iload_n hx hb d_R_leastExpired_40 rfl (lv_at hl 3 rfl) ?_
          refine lv_icmp_gt (tgt := 68) hx hb d_R_leastExpired_41 (by decide) (fun hc => ?_) (fun hc => ?_)
          · replace hw := hw.1 hc
            refine lv_iinc (k := 5) (v := x4 + 1) (lv' := [(4, .int (x4 + 1)), (5, .int (g.1 14 x4.toNatClampNeg)), (0, .ref (a 9)), (1, .int x1), (2, .int x2), (3, .int x3)]) hx hb d_R_leastExpired_68 hl rfl rfl (by decide) rfl (fun ls hl => ?_)
            refine lv_goto (tgt := 5) hx hb d_R_leastExpired_71 (by decide) ?_
            exact ih_5 u27 x1 x2 x3 (x4 + 1) _ _ _ hP hD hS (lv_sub hl [2, 3, 4, 5, 0] rfl) hw
          · replace hw := hw.2 hc
            refine lv_iload_n hx hb d_R_leastExpired_44 rfl (lv_at hl 4 rfl) ?_
            refine lv_iconst (v := (-1)) hx hb d_R_leastExpired_45 (by decide) ?_
            refine lv_icmp_eq (tgt := 65) hx hb d_R_leastExpired_46 (by decide) (fun hc => ?_) (fun hc => ?_)
            · replace hw := hw.1 hc
              refine lv_iload hx hb d_R_leastExpired_65 (lv_at hl 0 rfl) ?_
              refine lv_istore_n (lv' := [(3, .int (g.1 14 x4.toNatClampNeg)), (5, .int (g.1 14 x4.toNatClampNeg)), (0, .ref (a 9)), (1, .int x1), (2, .int x2), (4, .int x4)]) hx hb d_R_leastExpired_67 rfl hl (by decide) rfl (fun ls hl => ?_)
              refine lv_iinc (k := 5) (v := x4 + 1) (lv' := [(4, .int (x4 + 1)), (3, .int (g.1 14 x4.toNatClampNeg)), (5, .int (g.1 14 x4.toNatClampNeg)), (0, .ref (a 9)), (1, .int x1), (2, .int x2)]) hx hb d_R_leastExpired_68 hl rfl rfl (by decide) rfl (fun ls hl => ?_)
              refine lv_goto (tgt := 5) hx hb d_R_leastExpired_71 (by decide) ?_
              exact ih_5 u27 x1 x2 (g.1 14 x4.toNatClampNeg) (x4 + 1) _ _ _ hP hD hS (lv_sub hl [3, 4, 5, 1, 0] rfl) hw
            · replace hw := hw.2 hc
              refine lv_aload_n hx hb d_R_leastExpired_49 rfl (lv_at hl 1 rfl) ?_
              refine va_get (D := D) (ci := 3) (C := R_R) (T := F_R) (N := 9) hx hb hts in_R hown hK hP 9 rfl rfl 4 (by decide) (hts _ tb_67) (fun _ h9 => h9) rfl d_R_leastExpired_50 ?_
              refine lv_iload hx hb d_R_leastExpired_53 (lv_at hl 0 rfl) ?_
              refine va_iald hx hb hK hP 14 0 rfl rfl hw.1 d_R_leastExpired_55 ?_
              replace hw := hw.2
              refine lv_aload_n hx hb d_R_leastExpired_56 rfl (lv_at hl 1 rfl) ?_
              refine va_get (D := D) (ci := 3) (C := R_R) (T := F_R) (N := 9) hx hb hts in_R hown hK hP 9 rfl rfl 4 (by decide) (hts _ tb_67) (fun _ h9 => h9) rfl d_R_leastExpired_57 ?_
              refine lv_iload_n hx hb d_R_leastExpired_60 rfl (lv_at hl 4 rfl) ?_
              refine va_iald hx hb hK hP 14 0 rfl rfl hw.1 d_R_leastExpired_61 ?_
              replace hw := hw.2
              refine lv_icmp_ge (tgt := 68) hx hb d_R_leastExpired_62 (by decide) (fun hc => ?_) (fun hc => ?_)
              · replace hw := hw.1 hc
                refine lv_iinc (k := 5) (v := x4 + 1) (lv' := [(4, .int (x4 + 1)), (5, .int (g.1 14 x4.toNatClampNeg)), (0, .ref (a 9)), (1, .int x1), (2, .int x2), (3, .int x3)]) hx hb d_R_leastExpired_68 hl rfl rfl (by decide) rfl (fun ls hl => ?_)
                refine lv_goto (tgt := 5) hx hb d_R_leastExpired_71 (by decide) ?_
                exact ih_5 u27 x1 x2 x3 (x4 + 1) _ _ _ hP hD hS (lv_sub hl [2, 3, 4, 5, 0] rfl) hw
              · replace hw := hw.2 hc
                refine lv_iload hx hb d_R_leastExpired_65 (lv_at hl 0 rfl) ?_
                refine lv_istore_n (lv' := [(3, .int (g.1 14 x4.toNatClampNeg)), (5, .int (g.1 14 x4.toNatClampNeg)), (0, .ref (a 9)), (1, .int x1), (2, .int x2), (4, .int x4)]) hx hb d_R_leastExpired_67 rfl hl (by decide) rfl (fun ls hl => ?_)
                refine lv_iinc (k := 5) (v := x4 + 1) (lv' := [(4, .int (x4 + 1)), (3, .int (g.1 14 x4.toNatClampNeg)), (5, .int (g.1 14 x4.toNatClampNeg)), (0, .ref (a 9)), (1, .int x1), (2, .int x2)]) hx hb d_R_leastExpired_68 hl rfl rfl (by decide) rfl (fun ls hl => ?_)
                refine lv_goto (tgt := 5) hx hb d_R_leastExpired_71 (by decide) ?_
                exact ih_5 u27 x1 x2 (g.1 14 x4.toNatClampNeg) (x4 + 1) _ _ _ hP hD hS (lv_sub hl [3, 4, 5, 1, 0] rfl) hw
  unfold wp_R_leastExpired at hw
  refine lv_iconst (v := (-1)) hx hb d_R_leastExpired_0 (by decide) ?_
  refine lv_istore_n (lv' := [(3, .int (-1)), (0, .ref (a 9)), (1, .int x1), (2, .int x2)]) hx hb d_R_leastExpired_1 rfl hl (by decide) rfl (fun ls hl => ?_)
  refine lv_iconst (v := 0) hx hb d_R_leastExpired_2 (by decide) ?_
  refine lv_istore (lv' := [(4, .int 0), (3, .int (-1)), (0, .ref (a 9)), (1, .int x1), (2, .int x2)]) hx hb d_R_leastExpired_3 hl (by decide) rfl (fun ls hl => ?_)
  obtain ⟨n, hw⟩ := hw
  exact k_5 n g x1 x2 (-1) 0 _ _ _ hP hD hS (lv_sub hl [2, 3, 4, 1, 0] rfl) hw
set_option maxHeartbeats 4000000 in
set_option maxRecDepth 100000 in
theorem c_E_isOnDisk (l : Launch) (D : va_G) (a : Nat → Nat) (cI cZ : ClassId) (sz : Nat) (g : St) (x0 : Int32) (x1 : Int32) (Q : Int32 → St → Prop) (hw : wp_E_isOnDisk g x0 x1 Q) : MT_z l y_E_isOnDisk b_E_isOnDisk 2 rm_E_isOnDisk (wE a cI cZ) D (ty_ cI cZ) sz g [.int x0, .int x1] Q := by
  refine MTz_of (by decide +kernel) (Nat.le_of_ble_eq_true rfl) ?_
  intro p e s m args below meth c A Qt ls hx hb hml hts hown hN hK hP hD hA hl hret
  have hS : va_S A s.heap s.heap [] := va_S.rf
  have hl : lv_has ls 2 [(0, .int x0), (1, .int x1)] := hl
  unfold wp_E_isOnDisk at hw
  refine lv_iload_n hx hb d_E_isOnDisk_0 rfl (lv_at hl 1 rfl) ?_
  refine lv_iconst (v := 1) hx hb d_E_isOnDisk_1 (by decide) ?_
  refine lv_icmp_lt (tgt := 27) hx hb d_E_isOnDisk_2 (by decide) (fun hc => ?_) (fun hc => ?_)
  · replace hw := hw.1 hc
    refine lv_iconst (v := 0) hx hb d_E_isOnDisk_27 (by decide) ?_
    exact hret _ _ _ _ _ _ rfl hw hP hD hS d_E_isOnDisk_28
  · replace hw := hw.2 hc
    refine lv_iload_n hx hb d_E_isOnDisk_5 rfl (lv_at hl 1 rfl) ?_
    refine lv_bipush (v := 8) hx hb d_E_isOnDisk_6 (by decide) ?_
    refine lv_icmp_gt (tgt := 27) hx hb d_E_isOnDisk_8 (by decide) (fun hc => ?_) (fun hc => ?_)
    · replace hw := hw.1 hc
      refine lv_iconst (v := 0) hx hb d_E_isOnDisk_27 (by decide) ?_
      exact hret _ _ _ _ _ _ rfl hw hP hD hS d_E_isOnDisk_28
    · replace hw := hw.2 hc
      refine lv_iload_n hx hb d_E_isOnDisk_11 rfl (lv_at hl 0 rfl) ?_
      refine lv_if_lt (tgt := 27) hx hb d_E_isOnDisk_12 (by decide) (fun hc => ?_) (fun hc => ?_)
      · replace hw := hw.1 hc
        refine lv_iconst (v := 0) hx hb d_E_isOnDisk_27 (by decide) ?_
        exact hret _ _ _ _ _ _ rfl hw hP hD hS d_E_isOnDisk_28
      · replace hw := hw.2 hc
        refine lv_iload_n hx hb d_E_isOnDisk_15 rfl (lv_at hl 0 rfl) ?_
        refine lv_bipush (v := 64) hx hb d_E_isOnDisk_16 (by decide) ?_
        refine lv_iload_n hx hb d_E_isOnDisk_18 rfl (lv_at hl 1 rfl) ?_
        refine lv_isub hx hb d_E_isOnDisk_19 ?_
        refine lv_icmp_gt (tgt := 27) hx hb d_E_isOnDisk_20 (by decide) (fun hc => ?_) (fun hc => ?_)
        · replace hw := hw.1 hc
          refine lv_iconst (v := 0) hx hb d_E_isOnDisk_27 (by decide) ?_
          exact hret _ _ _ _ _ _ rfl hw hP hD hS d_E_isOnDisk_28
        · replace hw := hw.2 hc
          refine lv_iconst (v := 1) hx hb d_E_isOnDisk_23 (by decide) ?_
          refine lv_goto (tgt := 28) hx hb d_E_isOnDisk_24 (by decide) ?_
          exact hret _ _ _ _ _ _ rfl hw hP hD hS d_E_isOnDisk_28
set_option maxHeartbeats 4000000 in
set_option maxRecDepth 100000 in
theorem c_E_claimAllWaiting (l : Launch) (D : va_G) (a : Nat → Nat) (cI cZ : ClassId) (sz : Nat) (g : St) (Q : St → Prop) (hw : wp_E_claimAllWaiting g Q) : MT_v l y_E_claimAllWaiting b_E_claimAllWaiting 2 rm_E_claimAllWaiting (wE a cI cZ) D (ty_ cI cZ) sz g [.ref (a 0)] Q := by
  refine MTv_of (by decide +kernel) (Nat.le_of_ble_eq_true rfl) ?_
  intro p e s m args below meth c A Qt ls hx hb hml hts hown hN hK hP hD hA hl hret
  have hS : va_S A s.heap s.heap [] := va_S.rf
  have hl : lv_has ls 2 [(0, .ref (a 0))] := hl
  have k_9 : ∀ (n : Nat) (g : St) (x1 : Int32) (H : Heap) (locs : List Loc) (ls : Array Slot), va_P D cls_ (wE a cI cZ g) H → va_D A (wE a cI cZ g) → va_S A s.heap H locs → lv_has ls 2 [(0, .ref (a 0)), (1, .int x1)] → wl_E_claimAllWaiting_9 Q n g x1 → W p l e rm_E_claimAllWaiting s m args below meth c H locs 0 0 Qt (F0 m 9 ls []) := by
    intro n
    induction n with
    | zero => intro g x1 H locs ls hP hD hS hl hw; exact False.elim hw
    | succ n_9 ih_9 =>
      intro g x1 H locs ls hP hD hS hl hw
      unfold wl_E_claimAllWaiting_9 at hw
      refine lv_iload_n hx hb d_E_claimAllWaiting_9 rfl (lv_at hl 1 rfl) ?_
      refine lv_aload_n hx hb d_E_claimAllWaiting_10 rfl (lv_at hl 0 rfl) ?_
      refine va_get (D := D) (ci := 4) (C := R_E) (T := F_E) (N := 11) hx hb hts in_E hown hK hP 0 rfl rfl 1 (by decide) (hts _ tb_129) (fun _ h9 => h9) rfl d_E_claimAllWaiting_11 ?_
      refine va_getN (D := D) (ci := 2) (C := R_P) (T := F_P) (N := 7) hx hb hts in_P hown hK hP 2 rfl rfl 6 (by decide) (va_Nw.use rfl (hN _ tn_35)) (fun _ h9 => h9) rfl d_E_claimAllWaiting_14 ?_
      refine lv_icmp_ge (tgt := 62) hx hb d_E_claimAllWaiting_17 (by decide) (fun hc => ?_) (fun hc => ?_)
      · replace hw := hw.1 hc
        exact hret _ _ _ _ _ hw hP hD hS d_E_claimAllWaiting_62
      · replace hw := hw.2 hc
        refine lv_aload_n hx hb d_E_claimAllWaiting_20 rfl (lv_at hl 0 rfl) ?_
        refine va_get (D := D) (ci := 4) (C := R_E) (T := F_E) (N := 11) hx hb hts in_E hown hK hP 0 rfl rfl 1 (by decide) (hts _ tb_129) (fun _ h9 => h9) rfl d_E_claimAllWaiting_21 ?_
        refine va_getN (D := D) (ci := 2) (C := R_P) (T := F_P) (N := 7) hx hb hts in_P hown hK hP 2 rfl rfl 4 (by decide) (va_Nw.use rfl (hN _ tn_31)) (fun _ h9 => h9) rfl d_E_claimAllWaiting_24 ?_
        refine lv_iload_n hx hb d_E_claimAllWaiting_27 rfl (lv_at hl 1 rfl) ?_
        refine va_zald hx hb hK hP 7 1 rfl rfl hw.1 d_E_claimAllWaiting_28 ?_
        replace hw := hw.2
        refine lv_if_ne (tgt := 56) hx hb d_E_claimAllWaiting_29 (by decide) (fun hc => ?_) (fun hc => ?_)
        · replace hw := hw.1 hc
          refine lv_iinc (k := 1) (v := x1 + 1) (lv' := [(1, .int (x1 + 1)), (0, .ref (a 0))]) hx hb d_E_claimAllWaiting_56 hl rfl rfl (by decide) rfl (fun ls hl => ?_)
          refine lv_goto (tgt := 9) hx hb d_E_claimAllWaiting_59 (by decide) ?_
          exact ih_9 g (x1 + 1) _ _ _ hP hD hS (lv_sub hl [1, 0] rfl) hw
        · replace hw := hw.2 hc
          refine lv_aload_n hx hb d_E_claimAllWaiting_32 rfl (lv_at hl 0 rfl) ?_
          refine va_get (D := D) (ci := 4) (C := R_E) (T := F_E) (N := 11) hx hb hts in_E hown hK hP 0 rfl rfl 3 (by decide) (hts _ tb_131) (fun _ h9 => h9) rfl d_E_claimAllWaiting_33 ?_
          refine lv_aload_n hx hb d_E_claimAllWaiting_36 rfl (lv_at hl 0 rfl) ?_
          refine va_get (D := D) (ci := 4) (C := R_E) (T := F_E) (N := 11) hx hb hts in_E hown hK hP 0 rfl rfl 1 (by decide) (hts _ tb_129) (fun _ h9 => h9) rfl d_E_claimAllWaiting_37 ?_
          refine va_getN (D := D) (ci := 2) (C := R_P) (T := F_P) (N := 7) hx hb hts in_P hown hK hP 2 rfl rfl 0 (by decide) (va_Nw.use rfl (hN _ tn_24)) (fun _ h9 => h9) rfl d_E_claimAllWaiting_40 ?_
          refine lv_iload_n hx hb d_E_claimAllWaiting_43 rfl (lv_at hl 1 rfl) ?_
          refine va_iald hx hb hK hP 3 0 rfl rfl hw.1 d_E_claimAllWaiting_44 ?_
          replace hw := hw.2
          refine lv_aload_n hx hb d_E_claimAllWaiting_45 rfl (lv_at hl 0 rfl) ?_
          refine va_get (D := D) (ci := 4) (C := R_E) (T := F_E) (N := 11) hx hb hts in_E hown hK hP 0 rfl rfl 1 (by decide) (hts _ tb_129) (fun _ h9 => h9) rfl d_E_claimAllWaiting_46 ?_
          refine lv_iload_n hx hb d_E_claimAllWaiting_49 rfl (lv_at hl 1 rfl) ?_
          refine aft_l (va_runVN (As := [.int x1]) (rest := [.int (g.1 1 x1.toNatClampNeg), .ref (a 18)]) ⟨hx, hb, hml, hown, hts⟩ (c_P_sectors l D a cI cZ _ g x1 _ hw) ⟨(va_cnB 1 hts good_P_sectors rfl rfl rfl (hN _ tn_185) (hts _ tb_2) hd_P_sectors ⟨Nat.le_of_ble_eq_true rfl, Nat.le_of_ble_eq_true rfl⟩), hts _ tb_187, hts _ ts_4⟩ (preV 2 2 hP hD hK hN rfl rfl) rfl rfl hl.1 rfl (lv_room (Nat.le_of_ble_eq_true rfl)) d_E_claimAllWaiting_50 ⟨Nat.zero_le _, Nat.zero_le _⟩) hD hS hA hK (fun r50 u50 H locs hw hP hD hS => ?_)
          refine aft_v (va_runVN (As := [.int (g.1 1 x1.toNatClampNeg), .long r50]) (rest := []) ⟨hx, hb, hml, hown, hts⟩ (c_C_add l D a cI cZ _ u50 (g.1 1 x1.toNatClampNeg) r50 _ hw) ⟨(va_cnB 2 hts good_C_add rfl rfl rfl (hN _ tn_192) (hts _ tb_4) hd_C_add ⟨Nat.le_of_ble_eq_true rfl, Nat.le_of_ble_eq_true rfl⟩), hts _ tb_194, hts _ ts_5⟩ (preV 18 1 hP hD hK hN rfl rfl) rfl rfl hl.1 rfl (lv_room (Nat.le_of_ble_eq_true rfl)) d_E_claimAllWaiting_53 ⟨Nat.zero_le _, Nat.zero_le _⟩) hD hS hA hK (fun u53 H locs hw hP hD hS => ?_)
          refine lv_iinc (k := 1) (v := x1 + 1) (lv' := [(1, .int (x1 + 1)), (0, .ref (a 0))]) hx hb d_E_claimAllWaiting_56 hl rfl rfl (by decide) rfl (fun ls hl => ?_)
          refine lv_goto (tgt := 9) hx hb d_E_claimAllWaiting_59 (by decide) ?_
          exact ih_9 u53 (x1 + 1) _ _ _ hP hD hS (lv_sub hl [1, 0] rfl) hw
  unfold wp_E_claimAllWaiting at hw
  refine lv_aload_n hx hb d_E_claimAllWaiting_0 rfl (lv_at hl 0 rfl) ?_
  refine va_get (D := D) (ci := 4) (C := R_E) (T := F_E) (N := 11) hx hb hts in_E hown hK hP 0 rfl rfl 3 (by decide) (hts _ tb_131) (fun _ h9 => h9) rfl d_E_claimAllWaiting_1 ?_
  refine aft_v (va_runVN (As := []) (rest := []) ⟨hx, hb, hml, hown, hts⟩ (c_C_clear l D a cI cZ _ g _ hw) ⟨(va_cnB 0 hts good_C_clear rfl rfl rfl (hN _ tn_181) (hts _ tb_4) hd_C_clear ⟨Nat.le_of_ble_eq_true rfl, Nat.le_of_ble_eq_true rfl⟩), hts _ tb_183, hts _ ts_3⟩ (preV 18 1 hP hD hK hN rfl rfl) rfl rfl hl.1 rfl (lv_room (Nat.le_of_ble_eq_true rfl)) d_E_claimAllWaiting_4 ⟨Nat.zero_le _, Nat.zero_le _⟩) hD hS hA hK (fun u4 H locs hw hP hD hS => ?_)
  refine lv_iconst (v := 0) hx hb d_E_claimAllWaiting_7 (by decide) ?_
  refine lv_istore_n (lv' := [(1, .int 0), (0, .ref (a 0))]) hx hb d_E_claimAllWaiting_8 rfl hl (by decide) rfl (fun ls hl => ?_)
  obtain ⟨n, hw⟩ := hw
  exact k_9 n u4 0 _ _ _ hP hD hS (lv_sub hl [1, 0] rfl) hw
set_option maxHeartbeats 4000000 in
set_option maxRecDepth 100000 in
theorem c_E_hostFor (l : Launch) (D : va_G) (a : Nat → Nat) (cI cZ : ClassId) (sz : Nat) (g : St) (x1 : Int32) (x2 : Int32) (x3 : Int32) (Q : Int32 → St → Prop) (hw : wp_E_hostFor g x1 x2 x3 Q) : MT_i l y_E_hostFor b_E_hostFor 4 rm_E_hostFor (wE a cI cZ) D (ty_ cI cZ) sz g [.ref (a 0), .int x1, .int x2, .int x3] Q := by
  refine MTi_of (by decide +kernel) (Nat.le_of_ble_eq_true rfl) ?_
  intro p e s m args below meth c A Qt ls hx hb hml hts hown hN hK hP hD hA hl hret
  have hS : va_S A s.heap s.heap [] := va_S.rf
  have hl : lv_has ls 4 [(0, .ref (a 0)), (1, .int x1), (2, .int x2), (3, .int x3)] := hl
  unfold wp_E_hostFor at hw
  refine lv_aload_n hx hb d_E_hostFor_0 rfl (lv_at hl 0 rfl) ?_
  refine aft_v (va_runV (As := []) (rest := []) ⟨hx, hb, hml, hown, hts⟩ (c_E_claimAllWaiting l D a cI cZ _ g _ hw) ⟨(callB_of 0 hts good_E_claimAllWaiting rfl rfl rfl (hts _ tb_1) (hts _ tb_177) hd_E_claimAllWaiting ⟨Nat.le_of_ble_eq_true rfl, Nat.le_of_ble_eq_true rfl⟩), hts _ tb_179, hts _ ts_2⟩ (preV 0 4 hP hD hK hN rfl rfl) rfl rfl hl.1 rfl (lv_room (Nat.le_of_ble_eq_true rfl)) d_E_hostFor_1 ⟨Nat.zero_le _, Nat.zero_le _⟩) hD hS hA hK (fun u1 H locs hw hP hD hS => ?_)
  refine lv_aload_n hx hb d_E_hostFor_4 rfl (lv_at hl 0 rfl) ?_
  refine va_get (D := D) (ci := 4) (C := R_E) (T := F_E) (N := 11) hx hb hts in_E hown hK hP 0 rfl rfl 3 (by decide) (hts _ tb_131) (fun _ h9 => h9) rfl d_E_hostFor_5 ?_
  refine lv_iload_n hx hb d_E_hostFor_8 rfl (lv_at hl 1 rfl) ?_
  refine lv_iload_n hx hb d_E_hostFor_9 rfl (lv_at hl 2 rfl) ?_
  refine lv_iload_n hx hb d_E_hostFor_10 rfl (lv_at hl 3 rfl) ?_
  refine aft_l (va_runS (As := [.int x2, .int x3]) (rest := [.int x1, .ref (a 18)]) ⟨hx, hb, hml, hown, hts⟩ (c_E_sectorsFrom l D a cI cZ _ u1 x2 x3 _ hw) ⟨(callB_of 2 hts good_E_sectorsFrom rfl rfl rfl (hts _ tb_1) (hts _ tb_196) hd_E_sectorsFrom ⟨Nat.le_of_ble_eq_true rfl, Nat.le_of_ble_eq_true rfl⟩), (hts _ tb_190)⟩ (preS hP hD hK hN) rfl rfl hl.1 rfl (lv_room (Nat.le_of_ble_eq_true rfl)) d_E_hostFor_11 ⟨Nat.zero_le _, Nat.zero_le _⟩) hD hS hA hK (fun r11 u11 H locs hw hP hD hS => ?_)
  refine aft_i (va_runVN (As := [.int x1, .long r11]) (rest := []) ⟨hx, hb, hml, hown, hts⟩ (c_C_conflictWith l D a cI cZ _ u11 x1 r11 _ hw) ⟨(va_cnB 2 hts good_C_conflictWith rfl rfl rfl (hN _ tn_197) (hts _ tb_4) hd_C_conflictWith ⟨Nat.le_of_ble_eq_true rfl, Nat.le_of_ble_eq_true rfl⟩), hts _ tb_199, hts _ ts_6⟩ (preV 18 1 hP hD hK hN rfl rfl) rfl rfl hl.1 rfl (lv_room (Nat.le_of_ble_eq_true rfl)) d_E_hostFor_14 ⟨Nat.zero_le _, Nat.zero_le _⟩) hD hS hA hK (fun r14 u14 H locs hw hP hD hS => ?_)
  refine lv_if_eq (tgt := 22) hx hb d_E_hostFor_17 (by decide) (fun hc => ?_) (fun hc => ?_)
  · replace hw := hw.1 hc
    refine lv_aload_n hx hb d_E_hostFor_22 rfl (lv_at hl 0 rfl) ?_
    refine va_get (D := D) (ci := 4) (C := R_E) (T := F_E) (N := 11) hx hb hts in_E hown hK hP 0 rfl rfl 2 (by decide) (hts _ tb_130) (fun _ h9 => h9) rfl d_E_hostFor_23 ?_
    refine lv_iload_n hx hb d_E_hostFor_26 rfl (lv_at hl 1 rfl) ?_
    refine lv_iload_n hx hb d_E_hostFor_27 rfl (lv_at hl 2 rfl) ?_
    refine lv_iload_n hx hb d_E_hostFor_28 rfl (lv_at hl 3 rfl) ?_
    refine lv_aload_n hx hb d_E_hostFor_29 rfl (lv_at hl 0 rfl) ?_
    refine va_get (D := D) (ci := 4) (C := R_E) (T := F_E) (N := 11) hx hb hts in_E hown hK hP 0 rfl rfl 7 (by decide) (hts _ tb_135) (fun _ h9 => h9) rfl d_E_hostFor_30 ?_
    refine aft_i (va_runVN (As := [.int x1, .int x2, .int x3, .int (u14.2.1 7)]) (rest := []) ⟨hx, hb, hml, hown, hts⟩ (c_R_neighbourOf l D a cI cZ _ u14 x1 x2 x3 (u14.2.1 7) _ hw) ⟨(va_cnB 4 hts good_R_neighbourOf rfl rfl rfl (hN _ tn_201) (hts _ tb_3) hd_R_neighbourOf ⟨Nat.le_of_ble_eq_true rfl, Nat.le_of_ble_eq_true rfl⟩), hts _ tb_203, hts _ ts_7⟩ (preV 9 3 hP hD hK hN rfl rfl) rfl rfl hl.1 rfl (lv_room (Nat.le_of_ble_eq_true rfl)) d_E_hostFor_33 ⟨Nat.zero_le _, Nat.zero_le _⟩) hD hS hA hK (fun r33 u33 H locs hw hP hD hS => ?_)
    exact hret _ _ _ _ _ _ hw hP hD hS d_E_hostFor_36
  · replace hw := hw.2 hc
    refine lv_iconst (v := (-1)) hx hb d_E_hostFor_20 (by decide) ?_
    exact hret _ _ _ _ _ _ hw hP hD hS d_E_hostFor_21
