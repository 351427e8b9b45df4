set_option maxHeartbeats 4000000 in
set_option maxRecDepth 100000 in
theorem c_M_value (l : Launch) (D : va_G) (a : Nat → Nat) (cI cZ : ClassId) (sz : Nat) (g : St) (x1 : Int32) (x2 : Int32) (Q : Int32 → St → Prop) (hw : wp_M_value g x1 x2 Q) : MT_i l y_M_value b_M_value 3 rm_M_value (wM a cI cZ) D (ty_ cI cZ) sz g [.ref (a 0), .int x1, .int x2] Q := by
  refine MTi_of (by decide +kernel) (Nat.le_of_ble_eq_true rfl) ?_
  intro p e s m args below meth c A Qt ls hx hb hml hts hown hN hK hP hD hA hl hret
  have hS : va_S A s.heap s.heap [] := va_S.rf
  have hl : lv_has ls 3 [(0, .ref (a 0)), (1, .int x1), (2, .int x2)] := hl
  unfold wp_M_value at hw
  refine lv_aload_n hx hb d_M_value_0 rfl (lv_at hl 0 rfl) ?_
  refine lv_iload_n hx hb d_M_value_1 rfl (lv_at hl 1 rfl) ?_
  refine aft_i (va_runV (As := [.int x1]) (rest := []) ⟨hx, hb, hml, hown, hts⟩ (c_M_isPart l D a cI cZ _ g x1 _ hw) ⟨(callB_of 1 hts good_M_isPart rfl rfl rfl (hts _ tb_6) (hts _ tb_512) hd_M_isPart ⟨Nat.le_of_ble_eq_true rfl, Nat.le_of_ble_eq_true rfl⟩), hts _ tb_514, hts _ ts_40⟩ (preV 0 5 hP hD hK hN rfl rfl) rfl rfl hl.1 rfl (lv_room (Nat.le_of_ble_eq_true rfl)) d_M_value_2 ⟨Nat.zero_le _, Nat.zero_le _⟩) hD hS hA hK (fun r2 u2 H locs hw hP hD hS => ?_)
  refine lv_if_eq (tgt := 55) hx hb d_M_value_5 (by decide) (fun hc => ?_) (fun hc => ?_)
  · replace hw := hw.1 hc
    refine lv_iconst (v := 0) hx hb d_M_value_55 (by decide) ?_
    exact hret _ _ _ _ _ _ hw hP hD hS d_M_value_56
  · replace hw := hw.2 hc
    refine lv_aload_n hx hb d_M_value_8 rfl (lv_at hl 0 rfl) ?_
    refine va_get (D := D) (ci := 5) (C := R_M) (T := F_M) (N := 19) hx hb hts in_M hown hK hP 0 rfl rfl 2 (by decide) (hts _ tb_371) (fun _ h9 => h9) rfl d_M_value_9 ?_
    refine lv_iload_n hx hb d_M_value_12 rfl (lv_at hl 1 rfl) ?_
    refine va_iald hx hb hK hP 2 0 rfl rfl hw.1 d_M_value_13 ?_
    replace hw := hw.2
    refine lv_if_ne (tgt := 55) hx hb d_M_value_14 (by decide) (fun hc => ?_) (fun hc => ?_)
    · replace hw := hw.1 hc
      refine lv_iconst (v := 0) hx hb d_M_value_55 (by decide) ?_
      exact hret _ _ _ _ _ _ hw hP hD hS d_M_value_56
    · replace hw := hw.2 hc
      refine lv_aload_n hx hb d_M_value_17 rfl (lv_at hl 0 rfl) ?_
      refine va_get (D := D) (ci := 5) (C := R_M) (T := F_M) (N := 19) hx hb hts in_M hown hK hP 0 rfl rfl 7 (by decide) (hts _ tb_376) (fun _ h9 => h9) rfl d_M_value_18 ?_
      refine lv_iload_n hx hb d_M_value_21 rfl (lv_at hl 1 rfl) ?_
      refine va_iald hx hb hK hP 7 0 rfl rfl hw.1 d_M_value_22 ?_
      replace hw := hw.2
      refine lv_iconst (v := 2) hx hb d_M_value_23 (by decide) ?_
      refine lv_icmp_ne (tgt := 55) hx hb d_M_value_24 (by decide) (fun hc => ?_) (fun hc => ?_)
      · replace hw := hw.1 hc
        refine lv_iconst (v := 0) hx hb d_M_value_55 (by decide) ?_
        exact hret _ _ _ _ _ _ hw hP hD hS d_M_value_56
      · replace hw := hw.2 hc
        refine lv_iload_n hx hb d_M_value_27 rfl (lv_at hl 2 rfl) ?_
        refine lv_if_lt (tgt := 55) hx hb d_M_value_28 (by decide) (fun hc => ?_) (fun hc => ?_)
        · replace hw := hw.1 hc
          refine lv_iconst (v := 0) hx hb d_M_value_55 (by decide) ?_
          exact hret _ _ _ _ _ _ hw hP hD hS d_M_value_56
        · replace hw := hw.2 hc
          refine lv_iload_n hx hb d_M_value_31 rfl (lv_at hl 2 rfl) ?_
          refine lv_aload_n hx hb d_M_value_32 rfl (lv_at hl 0 rfl) ?_
          refine va_get (D := D) (ci := 5) (C := R_M) (T := F_M) (N := 19) hx hb hts in_M hown hK hP 0 rfl rfl 4 (by decide) (hts _ tb_373) (fun _ h9 => h9) rfl d_M_value_33 ?_
          refine lv_iload_n hx hb d_M_value_36 rfl (lv_at hl 1 rfl) ?_
          refine va_iald hx hb hK hP 4 0 rfl rfl hw.1 d_M_value_37 ?_
          replace hw := hw.2
          refine lv_icmp_ge (tgt := 55) hx hb d_M_value_38 (by decide) (fun hc => ?_) (fun hc => ?_)
          · replace hw := hw.1 hc
            refine lv_iconst (v := 0) hx hb d_M_value_55 (by decide) ?_
            exact hret _ _ _ _ _ _ hw hP hD hS d_M_value_56
          · replace hw := hw.2 hc
            refine lv_aload_n hx hb d_M_value_41 rfl (lv_at hl 0 rfl) ?_
            refine va_get (D := D) (ci := 5) (C := R_M) (T := F_M) (N := 19) hx hb hts in_M hown hK hP 0 rfl rfl 8 (by decide) (hts _ tb_377) (fun _ h9 => h9) rfl d_M_value_42 ?_
            refine lv_bipush (v := 8) hx hb d_M_value_45 (by decide) ?_
            refine lv_iload_n hx hb d_M_value_47 rfl (lv_at hl 1 rfl) ?_
            refine lv_imul hx hb d_M_value_48 ?_
            refine lv_iload_n hx hb d_M_value_49 rfl (lv_at hl 2 rfl) ?_
            refine lv_iadd hx hb d_M_value_50 ?_
            refine va_iald hx hb hK hP 8 0 rfl rfl hw.1 d_M_value_51 ?_
            replace hw := hw.2
            refine lv_goto (tgt := 56) hx hb d_M_value_52 (by decide) ?_
            exact hret _ _ _ _ _ _ hw hP hD hS d_M_value_56
set_option maxHeartbeats 4000000 in
set_option maxRecDepth 100000 in
theorem c_M_sector (l : Launch) (D : va_G) (a : Nat → Nat) (cI cZ : ClassId) (sz : Nat) (g : St) (x1 : Int32) (Q : Int32 → St → Prop) (hw : wp_M_sector g x1 Q) : MT_i l y_M_sector b_M_sector 2 rm_M_sector (wM a cI cZ) D (ty_ cI cZ) sz g [.ref (a 0), .int x1] Q := by
  refine MTi_of (by decide +kernel) (Nat.le_of_ble_eq_true rfl) ?_
  intro p e s m args below meth c A Qt ls hx hb hml hts hown hN hK hP hD hA hl hret
  have hS : va_S A s.heap s.heap [] := va_S.rf
  have hl : lv_has ls 2 [(0, .ref (a 0)), (1, .int x1)] := hl
  unfold wp_M_sector at hw
  refine lv_iload_n hx hb d_M_sector_0 rfl (lv_at hl 1 rfl) ?_
  refine lv_if_lt (tgt := 10) hx hb d_M_sector_1 (by decide) (fun hc => ?_) (fun hc => ?_)
  · replace hw := hw.1 hc
    refine lv_iconst (v := 0) hx hb d_M_sector_10 (by decide) ?_
    refine lv_goto (tgt := 20) hx hb d_M_sector_11 (by decide) ?_
    exact hret _ _ _ _ _ _ hw hP hD hS d_M_sector_20
  · replace hw := hw.2 hc
    refine lv_iload_n hx hb d_M_sector_4 rfl (lv_at hl 1 rfl) ?_
    refine lv_bipush (v := 63) hx hb d_M_sector_5 (by decide) ?_
    refine lv_icmp_le (tgt := 14) hx hb d_M_sector_7 (by decide) (fun hc => ?_) (fun hc => ?_)
    · replace hw := hw.1 hc
      refine lv_aload_n hx hb d_M_sector_14 rfl (lv_at hl 0 rfl) ?_
      refine va_get (D := D) (ci := 5) (C := R_M) (T := F_M) (N := 19) hx hb hts in_M hown hK hP 0 rfl rfl 0 (by decide) (hts _ tb_369) (fun _ h9 => h9) rfl d_M_sector_15 ?_
      refine lv_iload_n hx hb d_M_sector_18 rfl (lv_at hl 1 rfl) ?_
      refine va_iald hx hb hK hP 1 0 rfl rfl hw.1 d_M_sector_19 ?_
      replace hw := hw.2
      exact hret _ _ _ _ _ _ hw hP hD hS d_M_sector_20
    · replace hw := hw.2 hc
      refine lv_iconst (v := 0) hx hb d_M_sector_10 (by decide) ?_
      refine lv_goto (tgt := 20) hx hb d_M_sector_11 (by decide) ?_
      exact hret _ _ _ _ _ _ hw hP hD hS d_M_sector_20
set_option maxHeartbeats 4000000 in
set_option maxRecDepth 100000 in
theorem c_M_requestOf (l : Launch) (D : va_G) (a : Nat → Nat) (cI cZ : ClassId) (sz : Nat) (g : St) (x1 : Int32) (Q : Int32 → St → Prop) (hw : wp_M_requestOf g x1 Q) : MT_i l y_M_requestOf b_M_requestOf 2 rm_M_requestOf (wM a cI cZ) D (ty_ cI cZ) sz g [.ref (a 0), .int x1] Q := by
  refine MTi_of (by decide +kernel) (Nat.le_of_ble_eq_true rfl) ?_
  intro p e s m args below meth c A Qt ls hx hb hml hts hown hN hK hP hD hA hl hret
  have hS : va_S A s.heap s.heap [] := va_S.rf
  have hl : lv_has ls 2 [(0, .ref (a 0)), (1, .int x1)] := hl
  unfold wp_M_requestOf at hw
  refine lv_aload_n hx hb d_M_requestOf_0 rfl (lv_at hl 0 rfl) ?_
  refine lv_iload_n hx hb d_M_requestOf_1 rfl (lv_at hl 1 rfl) ?_
  refine aft_i (va_runV (As := [.int x1]) (rest := []) ⟨hx, hb, hml, hown, hts⟩ (c_M_isPart l D a cI cZ _ g x1 _ hw) ⟨(callB_of 1 hts good_M_isPart rfl rfl rfl (hts _ tb_6) (hts _ tb_512) hd_M_isPart ⟨Nat.le_of_ble_eq_true rfl, Nat.le_of_ble_eq_true rfl⟩), hts _ tb_514, hts _ ts_40⟩ (preV 0 5 hP hD hK hN rfl rfl) rfl rfl hl.1 rfl (lv_room (Nat.le_of_ble_eq_true rfl)) d_M_requestOf_2 ⟨Nat.zero_le _, Nat.zero_le _⟩) hD hS hA hK (fun r2 u2 H locs hw hP hD hS => ?_)
  refine lv_if_eq (tgt := 27) hx hb d_M_requestOf_5 (by decide) (fun hc => ?_) (fun hc => ?_)
  · replace hw := hw.1 hc
    refine lv_iconst (v := (-1)) hx hb d_M_requestOf_27 (by decide) ?_
    exact hret _ _ _ _ _ _ hw hP hD hS d_M_requestOf_28
  · replace hw := hw.2 hc
    refine lv_aload_n hx hb d_M_requestOf_8 rfl (lv_at hl 0 rfl) ?_
    refine va_get (D := D) (ci := 5) (C := R_M) (T := F_M) (N := 19) hx hb hts in_M hown hK hP 0 rfl rfl 7 (by decide) (hts _ tb_376) (fun _ h9 => h9) rfl d_M_requestOf_9 ?_
    refine lv_iload_n hx hb d_M_requestOf_12 rfl (lv_at hl 1 rfl) ?_
    refine va_iald hx hb hK hP 7 0 rfl rfl hw.1 d_M_requestOf_13 ?_
    replace hw := hw.2
    refine lv_iconst (v := 1) hx hb d_M_requestOf_14 (by decide) ?_
    refine lv_icmp_ne (tgt := 27) hx hb d_M_requestOf_15 (by decide) (fun hc => ?_) (fun hc => ?_)
    · replace hw := hw.1 hc
      refine lv_iconst (v := (-1)) hx hb d_M_requestOf_27 (by decide) ?_
      exact hret _ _ _ _ _ _ hw hP hD hS d_M_requestOf_28
    · replace hw := hw.2 hc
      refine lv_aload_n hx hb d_M_requestOf_18 rfl (lv_at hl 0 rfl) ?_
      refine va_get (D := D) (ci := 5) (C := R_M) (T := F_M) (N := 19) hx hb hts in_M hown hK hP 0 rfl rfl 6 (by decide) (hts _ tb_375) (fun _ h9 => h9) rfl d_M_requestOf_19 ?_
      refine lv_iload_n hx hb d_M_requestOf_22 rfl (lv_at hl 1 rfl) ?_
      refine va_iald hx hb hK hP 6 0 rfl rfl hw.1 d_M_requestOf_23 ?_
      replace hw := hw.2
      refine lv_goto (tgt := 28) hx hb d_M_requestOf_24 (by decide) ?_
      exact hret _ _ _ _ _ _ hw hP hD hS d_M_requestOf_28
set_option maxHeartbeats 4000000 in
set_option maxRecDepth 100000 in
theorem c_M_about (l : Launch) (D : va_G) (a : Nat → Nat) (cI cZ : ClassId) (sz : Nat) (g : St) (x1 : Int32) (x2 : Int32) (Q : Int32 → St → Prop) (hw : wp_M_about g x1 x2 Q) : MT_i l y_M_about b_M_about 4 rm_M_about (wM a cI cZ) D (ty_ cI cZ) sz g [.ref (a 0), .int x1, .int x2] Q := by
  refine MTi_of (by decide +kernel) (Nat.le_of_ble_eq_true rfl) ?_
  intro p e s m args below meth c A Qt ls hx hb hml hts hown hN hK hP hD hA hl hret
  have hS : va_S A s.heap s.heap [] := va_S.rf
  have hl : lv_has ls 4 [(0, .ref (a 0)), (1, .int x1), (2, .int x2)] := hl
  unfold wp_M_about at hw
  refine lv_aload_n hx hb d_M_about_0 rfl (lv_at hl 0 rfl) ?_
  refine lv_iload_n hx hb d_M_about_1 rfl (lv_at hl 1 rfl) ?_
  refine aft_i (va_runV (As := [.int x1]) (rest := []) ⟨hx, hb, hml, hown, hts⟩ (c_M_requestOf l D a cI cZ _ g x1 _ hw) ⟨(callB_of 1 hts good_M_requestOf rfl rfl rfl (hts _ tb_6) (hts _ tb_534) hd_M_requestOf ⟨Nat.le_of_ble_eq_true rfl, Nat.le_of_ble_eq_true rfl⟩), hts _ tb_527, hts _ tb_528⟩ (preV 0 5 hP hD hK hN rfl rfl) rfl rfl hl.1 rfl (lv_room (Nat.le_of_ble_eq_true rfl)) d_M_about_2 ⟨Nat.zero_le _, Nat.zero_le _⟩) hD hS hA hK (fun r2 u2 H locs hw hP hD hS => ?_)
  refine lv_istore_n (lv' := [(3, .int r2), (0, .ref (a 0)), (1, .int x1), (2, .int x2)]) hx hb d_M_about_5 rfl hl (by decide) rfl (fun ls hl => ?_)
  refine lv_iload_n hx hb d_M_about_6 rfl (lv_at hl 0 rfl) ?_
  refine lv_if_lt (tgt := 19) hx hb d_M_about_7 (by decide) (fun hc => ?_) (fun hc => ?_)
  · replace hw := hw.1 hc
    refine lv_iconst (v := (-1)) hx hb d_M_about_19 (by decide) ?_
    exact hret _ _ _ _ _ _ hw hP hD hS d_M_about_20
  · replace hw := hw.2 hc
    refine lv_iload_n hx hb d_M_about_10 rfl (lv_at hl 3 rfl) ?_
    refine lv_if_lt (tgt := 19) hx hb d_M_about_11 (by decide) (fun hc => ?_) (fun hc => ?_)
    · replace hw := hw.1 hc
      refine lv_iconst (v := (-1)) hx hb d_M_about_19 (by decide) ?_
      exact hret _ _ _ _ _ _ hw hP hD hS d_M_about_20
    · replace hw := hw.2 hc
      refine lv_iload_n hx hb d_M_about_14 rfl (lv_at hl 3 rfl) ?_
      refine lv_iconst (v := 4) hx hb d_M_about_15 (by decide) ?_
      refine lv_icmp_le (tgt := 21) hx hb d_M_about_16 (by decide) (fun hc => ?_) (fun hc => ?_)
      · replace hw := hw.1 hc
        refine lv_iload_n hx hb d_M_about_21 rfl (lv_at hl 3 rfl) ?_
        refine lv_if_ne (tgt := 33) hx hb d_M_about_22 (by decide) (fun hc => ?_) (fun hc => ?_)
        · replace hw := hw.1 hc
          refine lv_iload_n hx hb d_M_about_33 rfl (lv_at hl 3 rfl) ?_
          refine lv_iconst (v := 1) hx hb d_M_about_34 (by decide) ?_
          refine lv_icmp_ne (tgt := 46) hx hb d_M_about_35 (by decide) (fun hc => ?_) (fun hc => ?_)
          · replace hw := hw.1 hc
            refine lv_iload_n hx hb d_M_about_46 rfl (lv_at hl 3 rfl) ?_
            refine lv_iconst (v := 2) hx hb d_M_about_47 (by decide) ?_
            refine lv_icmp_ne (tgt := 60) hx hb d_M_about_48 (by decide) (fun hc => ?_) (fun hc => ?_)
            · replace hw := hw.1 hc
              refine lv_iload_n hx hb d_M_about_60 rfl (lv_at hl 3 rfl) ?_
              refine lv_iconst (v := 3) hx hb d_M_about_61 (by decide) ?_
              refine lv_icmp_ne (tgt := 74) hx hb d_M_about_62 (by decide) (fun hc => ?_) (fun hc => ?_)
              · replace hw := hw.1 hc
                refine lv_aload_n hx hb d_M_about_74 rfl (lv_at hl 1 rfl) ?_
                refine va_get (D := D) (ci := 5) (C := R_M) (T := F_M) (N := 19) hx hb hts in_M hown hK hP 0 rfl rfl 2 (by decide) (hts _ tb_371) (fun _ h9 => h9) rfl d_M_about_75 ?_
                refine lv_iload_n hx hb d_M_about_78 rfl (lv_at hl 0 rfl) ?_
                refine va_iald hx hb hK hP 2 0 rfl rfl hw.1 d_M_about_79 ?_
                replace hw := hw.2
                exact hret _ _ _ _ _ _ hw hP hD hS d_M_about_80
              · replace hw := hw.2 hc
                refine lv_aload_n hx hb d_M_about_65 rfl (lv_at hl 1 rfl) ?_
                refine va_get (D := D) (ci := 5) (C := R_M) (T := F_M) (N := 19) hx hb hts in_M hown hK hP 0 rfl rfl 10 (by decide) (hts _ tb_379) (fun _ h9 => h9) rfl d_M_about_66 ?_
                refine lv_iload_n hx hb d_M_about_69 rfl (lv_at hl 0 rfl) ?_
                refine va_iald hx hb hK hP 10 0 rfl rfl hw.1 d_M_about_70 ?_
                replace hw := hw.2
                refine lv_goto (tgt := 80) hx hb d_M_about_71 (by decide) ?_
                exact hret _ _ _ _ _ _ hw hP hD hS d_M_about_80
            · replace hw := hw.2 hc
              refine lv_aload_n hx hb d_M_about_51 rfl (lv_at hl 1 rfl) ?_
              refine va_get (D := D) (ci := 5) (C := R_M) (T := F_M) (N := 19) hx hb hts in_M hown hK hP 0 rfl rfl 9 (by decide) (hts _ tb_378) (fun _ h9 => h9) rfl d_M_about_52 ?_
              refine lv_iload_n hx hb d_M_about_55 rfl (lv_at hl 0 rfl) ?_
              refine va_iald hx hb hK hP 9 0 rfl rfl hw.1 d_M_about_56 ?_
              replace hw := hw.2
              refine lv_goto (tgt := 80) hx hb d_M_about_57 (by decide) ?_
              exact hret _ _ _ _ _ _ hw hP hD hS d_M_about_80
          · replace hw := hw.2 hc
            refine lv_aload_n hx hb d_M_about_38 rfl (lv_at hl 1 rfl) ?_
            refine lv_iload_n hx hb d_M_about_39 rfl (lv_at hl 0 rfl) ?_
            refine aft_i (va_runV (As := [.int r2]) (rest := []) ⟨hx, hb, hml, hown, hts⟩ (c_M_length l D a cI cZ _ u2 r2 _ hw) ⟨(callB_of 1 hts good_M_length rfl rfl rfl (hts _ tb_6) (hts _ tb_455) hd_M_length ⟨Nat.le_of_ble_eq_true rfl, Nat.le_of_ble_eq_true rfl⟩), hts _ tb_457, hts _ ts_33⟩ (preV 0 5 hP hD hK hN rfl rfl) rfl rfl hl.1 rfl (lv_room (Nat.le_of_ble_eq_true rfl)) d_M_about_40 ⟨Nat.zero_le _, Nat.zero_le _⟩) hD hS hA hK (fun r40 u40 H locs hw hP hD hS => ?_)
            refine lv_goto (tgt := 80) hx hb d_M_about_43 (by decide) ?_
            exact hret _ _ _ _ _ _ hw hP hD hS d_M_about_80
        · replace hw := hw.2 hc
          refine lv_aload_n hx hb d_M_about_25 rfl (lv_at hl 1 rfl) ?_
          refine lv_iload_n hx hb d_M_about_26 rfl (lv_at hl 0 rfl) ?_
          refine aft_i (va_runV (As := [.int r2]) (rest := []) ⟨hx, hb, hml, hown, hts⟩ (c_M_start l D a cI cZ _ u2 r2 _ hw) ⟨(callB_of 1 hts good_M_start rfl rfl rfl (hts _ tb_6) (hts _ tb_459) hd_M_start ⟨Nat.le_of_ble_eq_true rfl, Nat.le_of_ble_eq_true rfl⟩), hts _ tb_461, hts _ ts_34⟩ (preV 0 5 hP hD hK hN rfl rfl) rfl rfl hl.1 rfl (lv_room (Nat.le_of_ble_eq_true rfl)) d_M_about_27 ⟨Nat.zero_le _, Nat.zero_le _⟩) hD hS hA hK (fun r27 u27 H locs hw hP hD hS => ?_)
          refine lv_goto (tgt := 80) hx hb d_M_about_30 (by decide) ?_
          exact hret _ _ _ _ _ _ hw hP hD hS d_M_about_80
      · replace hw := hw.2 hc
        refine lv_iconst (v := (-1)) hx hb d_M_about_19 (by decide) ?_
        exact hret _ _ _ _ _ _ hw hP hD hS d_M_about_20
set_option maxHeartbeats 4000000 in
set_option maxRecDepth 100000 in
theorem c_M_latest (l : Launch) (D : va_G) (a : Nat → Nat) (cI cZ : ClassId) (sz : Nat) (g : St) (Q : Int32 → St → Prop) (hw : wp_M_latest g Q) : MT_i l y_M_latest b_M_latest 1 rm_M_latest (wM a cI cZ) D (ty_ cI cZ) sz g [.ref (a 0)] Q := by
  refine MTi_of (by decide +kernel) (Nat.le_of_ble_eq_true rfl) ?_
  intro p e s m args below meth c A Qt ls hx hb hml hts hown hN hK hP hD hA hl hret
  have hS : va_S A s.heap s.heap [] := va_S.rf
  have hl : lv_has ls 1 [(0, .ref (a 0))] := hl
  unfold wp_M_latest at hw
  refine lv_aload_n hx hb d_M_latest_0 rfl (lv_at hl 0 rfl) ?_
  refine va_get (D := D) (ci := 5) (C := R_M) (T := F_M) (N := 19) hx hb hts in_M hown hK hP 0 rfl rfl 18 (by decide) (hts _ tb_387) (fun _ h9 => h9) rfl d_M_latest_1 ?_
  exact hret _ _ _ _ _ _ hw hP hD hS d_M_latest_4
set_option maxHeartbeats 4000000 in
set_option maxRecDepth 100000 in
theorem c_M_head (l : Launch) (D : va_G) (a : Nat → Nat) (cI cZ : ClassId) (sz : Nat) (g : St) (Q : Int32 → St → Prop) (hw : wp_M_head g Q) : MT_i l y_M_head b_M_head 1 rm_M_head (wM a cI cZ) D (ty_ cI cZ) sz g [.ref (a 0)] Q := by
  refine MTi_of (by decide +kernel) (Nat.le_of_ble_eq_true rfl) ?_
  intro p e s m args below meth c A Qt ls hx hb hml hts hown hN hK hP hD hA hl hret
  have hS : va_S A s.heap s.heap [] := va_S.rf
  have hl : lv_has ls 1 [(0, .ref (a 0))] := hl
  unfold wp_M_head at hw
  refine lv_aload_n hx hb d_M_head_0 rfl (lv_at hl 0 rfl) ?_
  refine va_get (D := D) (ci := 5) (C := R_M) (T := F_M) (N := 19) hx hb hts in_M hown hK hP 0 rfl rfl 14 (by decide) (hts _ tb_383) (fun _ h9 => h9) rfl d_M_head_1 ?_
  exact hret _ _ _ _ _ _ hw hP hD hS d_M_head_4
set_option maxHeartbeats 4000000 in
set_option maxRecDepth 100000 in
theorem c_M_now (l : Launch) (D : va_G) (a : Nat → Nat) (cI cZ : ClassId) (sz : Nat) (g : St) (Q : Int32 → St → Prop) (hw : wp_M_now g Q) : MT_i l y_M_now b_M_now 1 rm_M_now (wM a cI cZ) D (ty_ cI cZ) sz g [.ref (a 0)] Q := by
  refine MTi_of (by decide +kernel) (Nat.le_of_ble_eq_true rfl) ?_
  intro p e s m args below meth c A Qt ls hx hb hml hts hown hN hK hP hD hA hl hret
  have hS : va_S A s.heap s.heap [] := va_S.rf
  have hl : lv_has ls 1 [(0, .ref (a 0))] := hl
  unfold wp_M_now at hw
  refine lv_aload_n hx hb d_M_now_0 rfl (lv_at hl 0 rfl) ?_
  refine va_get (D := D) (ci := 5) (C := R_M) (T := F_M) (N := 19) hx hb hts in_M hown hK hP 0 rfl rfl 12 (by decide) (hts _ tb_381) (fun _ h9 => h9) rfl d_M_now_1 ?_
  exact hret _ _ _ _ _ _ hw hP hD hS d_M_now_4
set_option maxHeartbeats 4000000 in
set_option maxRecDepth 100000 in
theorem c_M_batch (l : Launch) (D : va_G) (a : Nat → Nat) (cI cZ : ClassId) (sz : Nat) (g : St) (Q : Int32 → St → Prop) (hw : wp_M_batch g Q) : MT_i l y_M_batch b_M_batch 1 rm_M_batch (wM a cI cZ) D (ty_ cI cZ) sz g [.ref (a 0)] Q := by
  refine MTi_of (by decide +kernel) (Nat.le_of_ble_eq_true rfl) ?_
  intro p e s m args below meth c A Qt ls hx hb hml hts hown hN hK hP hD hA hl hret
  have hS : va_S A s.heap s.heap [] := va_S.rf
  have hl : lv_has ls 1 [(0, .ref (a 0))] := hl
  unfold wp_M_batch at hw
  refine lv_bipush (v := 10) hx hb d_M_batch_0 (by decide) ?_
  refine lv_aload_n hx hb d_M_batch_2 rfl (lv_at hl 0 rfl) ?_
  refine va_get (D := D) (ci := 5) (C := R_M) (T := F_M) (N := 19) hx hb hts in_M hown hK hP 0 rfl rfl 17 (by decide) (hts _ tb_386) (fun _ h9 => h9) rfl d_M_batch_3 ?_
  refine lv_imul hx hb d_M_batch_6 ?_
  refine lv_iconst (v := 5) hx hb d_M_batch_7 (by decide) ?_
  refine lv_aload_n hx hb d_M_batch_8 rfl (lv_at hl 0 rfl) ?_
  refine va_get (D := D) (ci := 5) (C := R_M) (T := F_M) (N := 19) hx hb hts in_M hown hK hP 0 rfl rfl 15 (by decide) (hts _ tb_384) (fun _ h9 => h9) rfl d_M_batch_9 ?_
  refine lv_imul hx hb d_M_batch_12 ?_
  refine lv_iadd hx hb d_M_batch_13 ?_
  refine lv_aload_n hx hb d_M_batch_14 rfl (lv_at hl 0 rfl) ?_
  refine va_get (D := D) (ci := 5) (C := R_M) (T := F_M) (N := 19) hx hb hts in_M hown hK hP 0 rfl rfl 16 (by decide) (hts _ tb_385) (fun _ h9 => h9) rfl d_M_batch_15 ?_
  refine lv_iadd hx hb d_M_batch_18 ?_
  exact hret _ _ _ _ _ _ hw hP hD hS d_M_batch_19
