set_option maxHeartbeats 4000000 in
set_option maxRecDepth 100000 in
theorem c_M_joined (l : Launch) (D : va_G) (a : Nat → Nat) (cI cZ : ClassId) (sz : Nat) (g : St) (x1 : Int32) (Q : Int32 → St → Prop) (hw : wp_M_joined g x1 Q) : MT_i l y_M_joined b_M_joined 5 rm_M_joined (wM a cI cZ) D (ty_ cI cZ) sz g [.ref (a 0), .int x1] Q := by
  refine MTi_of (by decide +kernel) (Nat.le_of_ble_eq_true rfl) ?_
  intro p e s m args below meth c A Qt ls hx hb hml hts hown hN hK hP hD hA hl hret
  have hS : va_S A s.heap s.heap [] := va_S.rf
  have hl : lv_has ls 5 [(0, .ref (a 0)), (1, .int x1)] := hl
  have k_36 : ∀ (n : Nat) (g : St) (x1 : Int32) (x2 : Int32) (H : Heap) (locs : List Loc) (ls : Array Slot), va_P D cls_ (wM a cI cZ g) H → va_D A (wM a cI cZ g) → va_S A s.heap H locs → lv_has ls 5 [(0, .ref (a 0)), (1, .int x1), (2, .int x2)] → wl_M_joined_36 Q n g x1 x2 → W p l e rm_M_joined s m args below meth c H locs 0 0 Qt (F0 m 36 ls []) := by
    intro n
    induction n with
    | zero => intro g x1 x2 H locs ls hP hD hS hl hw; exact False.elim hw
    | succ n_36 ih_36 =>
      have k_43 : ∀ (n : Nat) (g : St) (x1 : Int32) (x2 : Int32) (x3 : Int32) (H : Heap) (locs : List Loc) (ls : Array Slot), va_P D cls_ (wM a cI cZ g) H → va_D A (wM a cI cZ g) → va_S A s.heap H locs → lv_has ls 5 [(0, .ref (a 0)), (1, .int x1), (2, .int x2), (3, .int x3)] → wl_M_joined_43 (wl_M_joined_36 Q n_36) Q n g x1 x2 x3 → W p l e rm_M_joined s m args below meth c H locs 0 0 Qt (F0 m 43 ls []) := by
        intro n
        induction n with
        | zero => intro g x1 x2 x3 H locs ls hP hD hS hl hw; exact False.elim hw
        | succ n_43 ih_43 =>
          have k_168 : ∀ (g : St) (x1 : Int32) (x2 : Int32) (x3 : Int32) (z0 : Int32) (H : Heap) (locs : List Loc) (ls : Array Slot), va_P D cls_ (wM a cI cZ g) H → va_D A (wM a cI cZ g) → va_S A s.heap H locs → lv_has ls 5 [(0, .ref (a 0)), (1, .int x1), (2, .int x2), (3, .int x3)] → wb_M_joined_168 (wl_M_joined_36 Q n_36) (wl_M_joined_43 (wl_M_joined_36 Q n_36) Q n_43) Q g x1 x2 x3 z0 → W p l e rm_M_joined s m args below meth c H locs 0 0 Qt (F0 m 168 ls [.int z0]) := by
            intro g x1 x2 x3 z0 H locs ls hP hD hS hl hw
            unfold wb_M_joined_168 at hw
            refine lv_istore (lv' := [(4, .int z0), (0, .ref (a 0)), (1, .int x1), (2, .int x2), (3, .int x3)]) hx hb d_M_joined_168 hl (by decide) rfl (fun ls hl => ?_)
            refine lv_iload hx hb d_M_joined_170 (lv_at hl 0 rfl) ?_
            refine lv_if_eq (tgt := 177) hx hb d_M_joined_172 (by decide) (fun hc => ?_) (fun hc => ?_)
            · replace hw := hw.1 hc
              refine lv_iinc (k := 4) (v := x3 + 1) (lv' := [(3, .int (x3 + 1)), (4, .int z0), (0, .ref (a 0)), (1, .int x1), (2, .int x2)]) hx hb d_M_joined_177 hl rfl rfl (by decide) rfl (fun ls hl => ?_)
              refine lv_goto (tgt := 43) hx hb d_M_joined_180 (by decide) ?_
              exact ih_43 g x1 x2 (x3 + 1) _ _ _ hP hD hS (lv_sub hl [2, 3, 4, 0] rfl) hw
            · replace hw := hw.2 hc
              refine lv_iload_n hx hb d_M_joined_175 rfl (lv_at hl 4 rfl) ?_
              exact hret _ _ _ _ _ _ hw hP hD hS d_M_joined_176
          intro g x1 x2 x3 H locs ls hP hD hS hl hw
          unfold wl_M_joined_43 at hw
          refine lv_iload_n hx hb d_M_joined_43 rfl (lv_at hl 3 rfl) ?_
          refine lv_iload_n hx hb d_M_joined_44 rfl (lv_at hl 1 rfl) ?_
          refine lv_icmp_ge (tgt := 183) hx hb d_M_joined_45 (by decide) (fun hc => ?_) (fun hc => ?_)
          · replace hw := hw.1 hc
            refine lv_iinc (k := 2) (v := x2 + 1) (lv' := [(2, .int (x2 + 1)), (0, .ref (a 0)), (1, .int x1), (3, .int x3)]) hx hb d_M_joined_183 hl rfl rfl (by decide) rfl (fun ls hl => ?_)
            refine lv_goto (tgt := 36) hx hb d_M_joined_186 (by decide) ?_
            exact ih_36 g x1 (x2 + 1) _ _ _ hP hD hS (lv_sub hl [1, 2, 0] rfl) hw
          · replace hw := hw.2 hc
            refine lv_aload_n hx hb d_M_joined_48 rfl (lv_at hl 0 rfl) ?_
            refine lv_iload_n hx hb d_M_joined_49 rfl (lv_at hl 3 rfl) ?_
            refine aft_i (va_runV (As := [.int x3]) (rest := []) ⟨hx, hb, hml, hown, hts⟩ (c_M_waits l D a cI cZ _ g x3 _ hw) ⟨(callB_of 1 hts good_M_waits rfl rfl rfl (hts _ tb_6) (hts _ tb_439) hd_M_waits ⟨Nat.le_of_ble_eq_true rfl, Nat.le_of_ble_eq_true rfl⟩), hts _ tb_441, hts _ ts_29⟩ (preV 0 5 hP hD hK hN rfl rfl) rfl rfl hl.1 rfl (lv_room (Nat.le_of_ble_eq_true rfl)) d_M_joined_50 ⟨Nat.zero_le _, Nat.zero_le _⟩) hD hS hA hK (fun r50 u50 H locs hw hP hD hS => ?_)
            refine lv_if_eq (tgt := 177) hx hb d_M_joined_53 (by decide) (fun hc => ?_) (fun hc => ?_)
            · replace hw := hw.1 hc
              refine lv_iinc (k := 3) (v := x3 + 1) (lv' := [(3, .int (x3 + 1)), (0, .ref (a 0)), (1, .int x1), (2, .int x2)]) hx hb d_M_joined_177 hl rfl rfl (by decide) rfl (fun ls hl => ?_)
              refine lv_goto (tgt := 43) hx hb d_M_joined_180 (by decide) ?_
              exact ih_43 u50 x1 x2 (x3 + 1) _ _ _ hP hD hS (lv_sub hl [1, 2, 3, 0] rfl) hw
            · replace hw := hw.2 hc
              refine lv_aload_n hx hb d_M_joined_56 rfl (lv_at hl 0 rfl) ?_
              refine va_get (D := D) (ci := 5) (C := R_M) (T := F_M) (N := 19) hx hb hts in_M hown hK hP 0 rfl rfl 2 (by decide) (hts _ tb_371) (fun _ h9 => h9) rfl d_M_joined_57 ?_
              refine lv_iload_n hx hb d_M_joined_60 rfl (lv_at hl 3 rfl) ?_
              refine va_iald hx hb hK hP 2 0 rfl rfl hw.1 d_M_joined_61 ?_
              replace hw := hw.2
              refine lv_aload_n hx hb d_M_joined_62 rfl (lv_at hl 0 rfl) ?_
              refine va_get (D := D) (ci := 5) (C := R_M) (T := F_M) (N := 19) hx hb hts in_M hown hK hP 0 rfl rfl 2 (by decide) (hts _ tb_371) (fun _ h9 => h9) rfl d_M_joined_63 ?_
              refine lv_iload_n hx hb d_M_joined_66 rfl (lv_at hl 1 rfl) ?_
              refine va_iald hx hb hK hP 2 0 rfl rfl hw.1 d_M_joined_67 ?_
              replace hw := hw.2
              refine lv_icmp_ne (tgt := 177) hx hb d_M_joined_68 (by decide) (fun hc => ?_) (fun hc => ?_)
              · replace hw := hw.1 hc
                refine lv_iinc (k := 3) (v := x3 + 1) (lv' := [(3, .int (x3 + 1)), (0, .ref (a 0)), (1, .int x1), (2, .int x2)]) hx hb d_M_joined_177 hl rfl rfl (by decide) rfl (fun ls hl => ?_)
                refine lv_goto (tgt := 43) hx hb d_M_joined_180 (by decide) ?_
                exact ih_43 u50 x1 x2 (x3 + 1) _ _ _ hP hD hS (lv_sub hl [1, 2, 3, 0] rfl) hw
              · replace hw := hw.2 hc
                refine lv_aload_n hx hb d_M_joined_71 rfl (lv_at hl 0 rfl) ?_
                refine va_get (D := D) (ci := 5) (C := R_M) (T := F_M) (N := 19) hx hb hts in_M hown hK hP 0 rfl rfl 10 (by decide) (hts _ tb_379) (fun _ h9 => h9) rfl d_M_joined_72 ?_
                refine lv_iload_n hx hb d_M_joined_75 rfl (lv_at hl 3 rfl) ?_
                refine va_iald hx hb hK hP 10 0 rfl rfl hw.1 d_M_joined_76 ?_
                replace hw := hw.2
                refine lv_aload_n hx hb d_M_joined_77 rfl (lv_at hl 0 rfl) ?_
                refine va_get (D := D) (ci := 5) (C := R_M) (T := F_M) (N := 19) hx hb hts in_M hown hK hP 0 rfl rfl 11 (by decide) (hts _ tb_380) (fun _ h9 => h9) rfl d_M_joined_78 ?_
                refine lv_icmp_ne (tgt := 177) hx hb d_M_joined_81 (by decide) (fun hc => ?_) (fun hc => ?_)
                · replace hw := hw.1 hc
                  refine lv_iinc (k := 3) (v := x3 + 1) (lv' := [(3, .int (x3 + 1)), (0, .ref (a 0)), (1, .int x1), (2, .int x2)]) hx hb d_M_joined_177 hl rfl rfl (by decide) rfl (fun ls hl => ?_)
                  refine lv_goto (tgt := 43) hx hb d_M_joined_180 (by decide) ?_
                  exact ih_43 u50 x1 x2 (x3 + 1) _ _ _ hP hD hS (lv_sub hl [1, 2, 3, 0] rfl) hw
                · replace hw := hw.2 hc
                  refine lv_aload_n hx hb d_M_joined_84 rfl (lv_at hl 0 rfl) ?_
                  refine lv_iload_n hx hb d_M_joined_85 rfl (lv_at hl 3 rfl) ?_
                  refine aft_i (va_runV (As := [.int x3]) (rest := []) ⟨hx, hb, hml, hown, hts⟩ (c_M_members l D a cI cZ _ u50 x3 _ hw) ⟨(callB_of 1 hts good_M_members rfl rfl rfl (hts _ tb_6) (hts _ tb_451) hd_M_members ⟨Nat.le_of_ble_eq_true rfl, Nat.le_of_ble_eq_true rfl⟩), hts _ tb_453, hts _ ts_32⟩ (preV 0 5 hP hD hK hN rfl rfl) rfl rfl hl.1 rfl (lv_room (Nat.le_of_ble_eq_true rfl)) d_M_joined_86 ⟨Nat.zero_le _, Nat.zero_le _⟩) hD hS hA hK (fun r86 u86 H locs hw hP hD hS => ?_)
                  refine lv_iconst (v := 4) hx hb d_M_joined_89 (by decide) ?_
                  refine lv_icmp_ge (tgt := 177) hx hb d_M_joined_90 (by decide) (fun hc => ?_) (fun hc => ?_)
                  · replace hw := hw.1 hc
                    refine lv_iinc (k := 3) (v := x3 + 1) (lv' := [(3, .int (x3 + 1)), (0, .ref (a 0)), (1, .int x1), (2, .int x2)]) hx hb d_M_joined_177 hl rfl rfl (by decide) rfl (fun ls hl => ?_)
                    refine lv_goto (tgt := 43) hx hb d_M_joined_180 (by decide) ?_
                    exact ih_43 u86 x1 x2 (x3 + 1) _ _ _ hP hD hS (lv_sub hl [1, 2, 3, 0] rfl) hw
                  · replace hw := hw.2 hc
                    refine lv_aload_n hx hb d_M_joined_93 rfl (lv_at hl 0 rfl) ?_
                    refine lv_iload_n hx hb d_M_joined_94 rfl (lv_at hl 3 rfl) ?_
                    refine aft_i (va_runV (As := [.int x3]) (rest := []) ⟨hx, hb, hml, hown, hts⟩ (c_M_length l D a cI cZ _ u86 x3 _ hw) ⟨(callB_of 1 hts good_M_length rfl rfl rfl (hts _ tb_6) (hts _ tb_455) hd_M_length ⟨Nat.le_of_ble_eq_true rfl, Nat.le_of_ble_eq_true rfl⟩), hts _ tb_457, hts _ ts_33⟩ (preV 0 5 hP hD hK hN rfl rfl) rfl rfl hl.1 rfl (lv_room (Nat.le_of_ble_eq_true rfl)) d_M_joined_95 ⟨Nat.zero_le _, Nat.zero_le _⟩) hD hS hA hK (fun r95 u95 H locs hw hP hD hS => ?_)
                    refine lv_aload_n hx hb d_M_joined_98 rfl (lv_at hl 0 rfl) ?_
                    refine va_get (D := D) (ci := 5) (C := R_M) (T := F_M) (N := 19) hx hb hts in_M hown hK hP 0 rfl rfl 4 (by decide) (hts _ tb_373) (fun _ h9 => h9) rfl d_M_joined_99 ?_
                    refine lv_iload_n hx hb d_M_joined_102 rfl (lv_at hl 1 rfl) ?_
                    refine va_iald hx hb hK hP 4 0 rfl rfl hw.1 d_M_joined_103 ?_
                    replace hw := hw.2
                    refine lv_iadd hx hb d_M_joined_104 ?_
                    refine lv_bipush (v := 16) hx hb d_M_joined_105 (by decide) ?_
                    refine lv_icmp_gt (tgt := 177) hx hb d_M_joined_107 (by decide) (fun hc => ?_) (fun hc => ?_)
                    · replace hw := hw.1 hc
                      refine lv_iinc (k := 3) (v := x3 + 1) (lv' := [(3, .int (x3 + 1)), (0, .ref (a 0)), (1, .int x1), (2, .int x2)]) hx hb d_M_joined_177 hl rfl rfl (by decide) rfl (fun ls hl => ?_)
                      refine lv_goto (tgt := 43) hx hb d_M_joined_180 (by decide) ?_
                      exact ih_43 u95 x1 x2 (x3 + 1) _ _ _ hP hD hS (lv_sub hl [1, 2, 3, 0] rfl) hw
                    · replace hw := hw.2 hc
                      refine lv_iload_n hx hb d_M_joined_110 rfl (lv_at hl 2 rfl) ?_
                      refine lv_if_ne (tgt := 142) hx hb d_M_joined_111 (by decide) (fun hc => ?_) (fun hc => ?_)
                      · replace hw := hw.1 hc
                        refine lv_aload_n hx hb d_M_joined_142 rfl (lv_at hl 0 rfl) ?_
                        refine lv_iload_n hx hb d_M_joined_143 rfl (lv_at hl 3 rfl) ?_
                        refine aft_i (va_runV (As := [.int x3]) (rest := []) ⟨hx, hb, hml, hown, hts⟩ (c_M_start l D a cI cZ _ u95 x3 _ hw) ⟨(callB_of 1 hts good_M_start rfl rfl rfl (hts _ tb_6) (hts _ tb_459) hd_M_start ⟨Nat.le_of_ble_eq_true rfl, Nat.le_of_ble_eq_true rfl⟩), hts _ tb_461, hts _ ts_34⟩ (preV 0 5 hP hD hK hN rfl rfl) rfl rfl hl.1 rfl (lv_room (Nat.le_of_ble_eq_true rfl)) d_M_joined_144 ⟨Nat.zero_le _, Nat.zero_le _⟩) hD hS hA hK (fun r144 u144 H locs hw hP hD hS => ?_)
                        refine lv_aload_n hx hb d_M_joined_147 rfl (lv_at hl 0 rfl) ?_
                        refine va_get (D := D) (ci := 5) (C := R_M) (T := F_M) (N := 19) hx hb hts in_M hown hK hP 0 rfl rfl 3 (by decide) (hts _ tb_372) (fun _ h9 => h9) rfl d_M_joined_148 ?_
                        refine lv_iload_n hx hb d_M_joined_151 rfl (lv_at hl 1 rfl) ?_
                        refine va_iald hx hb hK hP 3 0 rfl rfl hw.1 d_M_joined_152 ?_
                        replace hw := hw.2
                        refine lv_aload_n hx hb d_M_joined_153 rfl (lv_at hl 0 rfl) ?_
                        refine va_get (D := D) (ci := 5) (C := R_M) (T := F_M) (N := 19) hx hb hts in_M hown hK hP 0 rfl rfl 4 (by decide) (hts _ tb_373) (fun _ h9 => h9) rfl d_M_joined_154 ?_
                        refine lv_iload_n hx hb d_M_joined_157 rfl (lv_at hl 1 rfl) ?_
                        refine va_iald hx hb hK hP 4 0 rfl rfl hw.1 d_M_joined_158 ?_
                        replace hw := hw.2
                        refine lv_iadd hx hb d_M_joined_159 ?_
                        refine lv_icmp_ne (tgt := 167) hx hb d_M_joined_160 (by decide) (fun hc => ?_) (fun hc => ?_)
                        · replace hw := hw.1 hc
                          refine lv_iconst (v := 0) hx hb d_M_joined_167 (by decide) ?_
                          exact k_168 u144 x1 x2 x3 0 _ _ _ hP hD hS (lv_sub hl [0, 1, 2, 3] rfl) hw
                        · replace hw := hw.2 hc
                          refine lv_iconst (v := 1) hx hb d_M_joined_163 (by decide) ?_
                          refine lv_goto (tgt := 168) hx hb d_M_joined_164 (by decide) ?_
                          exact k_168 u144 x1 x2 x3 1 _ _ _ hP hD hS (lv_sub hl [0, 1, 2, 3] rfl) hw
                      · replace hw := hw.2 hc
                        refine lv_aload_n hx hb d_M_joined_114 rfl (lv_at hl 0 rfl) ?_
                        refine lv_iload_n hx hb d_M_joined_115 rfl (lv_at hl 3 rfl) ?_
                        refine aft_i (va_runV (As := [.int x3]) (rest := []) ⟨hx, hb, hml, hown, hts⟩ (c_M_start l D a cI cZ _ u95 x3 _ hw) ⟨(callB_of 1 hts good_M_start rfl rfl rfl (hts _ tb_6) (hts _ tb_459) hd_M_start ⟨Nat.le_of_ble_eq_true rfl, Nat.le_of_ble_eq_true rfl⟩), hts _ tb_461, hts _ ts_34⟩ (preV 0 5 hP hD hK hN rfl rfl) rfl rfl hl.1 rfl (lv_room (Nat.le_of_ble_eq_true rfl)) d_M_joined_116 ⟨Nat.zero_le _, Nat.zero_le _⟩) hD hS hA hK (fun r116 u116 H locs hw hP hD hS => ?_)
                        refine lv_aload_n hx hb d_M_joined_119 rfl (lv_at hl 0 rfl) ?_
                        refine lv_iload_n hx hb d_M_joined_120 rfl (lv_at hl 3 rfl) ?_
                        refine aft_i (va_runV (As := [.int x3]) (rest := [.int r116]) ⟨hx, hb, hml, hown, hts⟩ (c_M_length l D a cI cZ _ u116 x3 _ hw) ⟨(callB_of 1 hts good_M_length rfl rfl rfl (hts _ tb_6) (hts _ tb_455) hd_M_length ⟨Nat.le_of_ble_eq_true rfl, Nat.le_of_ble_eq_true rfl⟩), hts _ tb_457, hts _ ts_33⟩ (preV 0 5 hP hD hK hN rfl rfl) rfl rfl hl.1 rfl (lv_room (Nat.le_of_ble_eq_true rfl)) d_M_joined_121 ⟨Nat.zero_le _, Nat.zero_le _⟩) hD hS hA hK (fun r121 u121 H locs hw hP hD hS => ?_)
                        refine lv_iadd hx hb d_M_joined_124 ?_
                        refine lv_aload_n hx hb d_M_joined_125 rfl (lv_at hl 0 rfl) ?_
                        refine va_get (D := D) (ci := 5) (C := R_M) (T := F_M) (N := 19) hx hb hts in_M hown hK hP 0 rfl rfl 3 (by decide) (hts _ tb_372) (fun _ h9 => h9) rfl d_M_joined_126 ?_
                        refine lv_iload_n hx hb d_M_joined_129 rfl (lv_at hl 1 rfl) ?_
                        refine va_iald hx hb hK hP 3 0 rfl rfl hw.1 d_M_joined_130 ?_
                        replace hw := hw.2
                        refine lv_icmp_ne (tgt := 138) hx hb d_M_joined_131 (by decide) (fun hc => ?_) (fun hc => ?_)
                        · replace hw := hw.1 hc
                          refine lv_iconst (v := 0) hx hb d_M_joined_138 (by decide) ?_
                          refine lv_goto (tgt := 168) hx hb d_M_joined_139 (by decide) ?_
                          exact k_168 u121 x1 x2 x3 0 _ _ _ hP hD hS (lv_sub hl [0, 1, 2, 3] rfl) hw
                        · replace hw := hw.2 hc
                          refine lv_iconst (v := 1) hx hb d_M_joined_134 (by decide) ?_
                          refine lv_goto (tgt := 168) hx hb d_M_joined_135 (by decide) ?_
                          exact k_168 u121 x1 x2 x3 1 _ _ _ hP hD hS (lv_sub hl [0, 1, 2, 3] rfl) hw
      intro g x1 x2 H locs ls hP hD hS hl hw
      unfold wl_M_joined_36 at hw
      refine lv_iload_n hx hb d_M_joined_36 rfl (lv_at hl 2 rfl) ?_
      refine lv_iconst (v := 2) hx hb d_M_joined_37 (by decide) ?_
      refine lv_icmp_ge (tgt := 189) hx hb d_M_joined_38 (by decide) (fun hc => ?_) (fun hc => ?_)
      · replace hw := hw.1 hc
        refine lv_iload_n hx hb d_M_joined_189 rfl (lv_at hl 1 rfl) ?_
        exact hret _ _ _ _ _ _ hw hP hD hS d_M_joined_190
      · replace hw := hw.2 hc
        refine lv_iconst (v := 0) hx hb d_M_joined_41 (by decide) ?_
        refine lv_istore_n (lv' := [(3, .int 0), (0, .ref (a 0)), (1, .int x1), (2, .int x2)]) hx hb d_M_joined_42 rfl hl (by decide) rfl (fun ls hl => ?_)
        obtain ⟨n, hw⟩ := hw
        exact k_43 n g x1 x2 0 _ _ _ hP hD hS (lv_sub hl [1, 2, 3, 0] rfl) hw
  have k_2 : ∀ (n : Nat) (g : St) (x1 : Int32) (x2 : Int32) (H : Heap) (locs : List Loc) (ls : Array Slot), va_P D cls_ (wM a cI cZ g) H → va_D A (wM a cI cZ g) → va_S A s.heap H locs → lv_has ls 5 [(0, .ref (a 0)), (1, .int x1), (2, .int x2)] → wl_M_joined_2 Q n g x1 x2 → W p l e rm_M_joined s m args below meth c H locs 0 0 Qt (F0 m 2 ls []) := by
    intro n
    induction n with
    | zero => intro g x1 x2 H locs ls hP hD hS hl hw; exact False.elim hw
    | succ n_2 ih_2 =>
      intro g x1 x2 H locs ls hP hD hS hl hw
      unfold wl_M_joined_2 at hw
      refine lv_iload_n hx hb d_M_joined_2 rfl (lv_at hl 2 rfl) ?_
      refine lv_iload_n hx hb d_M_joined_3 rfl (lv_at hl 1 rfl) ?_
      refine lv_icmp_ge (tgt := 34) hx hb d_M_joined_4 (by decide) (fun hc => ?_) (fun hc => ?_)
      · replace hw := hw.1 hc
        refine lv_iconst (v := 0) hx hb d_M_joined_34 (by decide) ?_
        refine lv_istore_n (lv' := [(2, .int 0), (0, .ref (a 0)), (1, .int x1)]) hx hb d_M_joined_35 rfl hl (by decide) rfl (fun ls hl => ?_)
        obtain ⟨n, hw⟩ := hw
        exact k_36 n g x1 0 _ _ _ hP hD hS (lv_sub hl [1, 2, 0] rfl) hw
      · replace hw := hw.2 hc
        refine lv_aload_n hx hb d_M_joined_7 rfl (lv_at hl 0 rfl) ?_
        refine va_get (D := D) (ci := 5) (C := R_M) (T := F_M) (N := 19) hx hb hts in_M hown hK hP 0 rfl rfl 7 (by decide) (hts _ tb_376) (fun _ h9 => h9) rfl d_M_joined_8 ?_
        refine lv_iload_n hx hb d_M_joined_11 rfl (lv_at hl 2 rfl) ?_
        refine va_iald hx hb hK hP 7 0 rfl rfl hw.1 d_M_joined_12 ?_
        replace hw := hw.2
        refine lv_iconst (v := 1) hx hb d_M_joined_13 (by decide) ?_
        refine lv_icmp_ne (tgt := 28) hx hb d_M_joined_14 (by decide) (fun hc => ?_) (fun hc => ?_)
        · replace hw := hw.1 hc
          refine lv_iinc (k := 2) (v := x2 + 1) (lv' := [(2, .int (x2 + 1)), (0, .ref (a 0)), (1, .int x1)]) hx hb d_M_joined_28 hl rfl rfl (by decide) rfl (fun ls hl => ?_)
          refine lv_goto (tgt := 2) hx hb d_M_joined_31 (by decide) ?_
          exact ih_2 g x1 (x2 + 1) _ _ _ hP hD hS (lv_sub hl [1, 2, 0] rfl) hw
        · replace hw := hw.2 hc
          refine lv_aload_n hx hb d_M_joined_17 rfl (lv_at hl 0 rfl) ?_
          refine lv_iload_n hx hb d_M_joined_18 rfl (lv_at hl 1 rfl) ?_
          refine lv_iload_n hx hb d_M_joined_19 rfl (lv_at hl 2 rfl) ?_
          refine aft_i (va_runV (As := [.int x1, .int x2]) (rest := []) ⟨hx, hb, hml, hown, hts⟩ (c_M_conflict l D a cI cZ _ g x1 x2 _ hw) ⟨(callB_of 2 hts good_M_conflict rfl rfl rfl (hts _ tb_6) (hts _ tb_447) hd_M_conflict ⟨Nat.le_of_ble_eq_true rfl, Nat.le_of_ble_eq_true rfl⟩), hts _ tb_449, hts _ ts_31⟩ (preV 0 5 hP hD hK hN rfl rfl) rfl rfl hl.1 rfl (lv_room (Nat.le_of_ble_eq_true rfl)) d_M_joined_20 ⟨Nat.zero_le _, Nat.zero_le _⟩) hD hS hA hK (fun r20 u20 H locs hw hP hD hS => ?_)
          refine lv_if_eq (tgt := 28) hx hb d_M_joined_23 (by decide) (fun hc => ?_) (fun hc => ?_)
          · replace hw := hw.1 hc
            refine lv_iinc (k := 2) (v := x2 + 1) (lv' := [(2, .int (x2 + 1)), (0, .ref (a 0)), (1, .int x1)]) hx hb d_M_joined_28 hl rfl rfl (by decide) rfl (fun ls hl => ?_)
            refine lv_goto (tgt := 2) hx hb d_M_joined_31 (by decide) ?_
            exact ih_2 u20 x1 (x2 + 1) _ _ _ hP hD hS (lv_sub hl [1, 2, 0] rfl) hw
          · replace hw := hw.2 hc
            refine lv_iload_n hx hb d_M_joined_26 rfl (lv_at hl 1 rfl) ?_
            exact hret _ _ _ _ _ _ hw hP hD hS d_M_joined_27
  unfold wp_M_joined at hw
  refine lv_iconst (v := 0) hx hb d_M_joined_0 (by decide) ?_
  refine lv_istore_n (lv' := [(2, .int 0), (0, .ref (a 0)), (1, .int x1)]) hx hb d_M_joined_1 rfl hl (by decide) rfl (fun ls hl => ?_)
  obtain ⟨n, hw⟩ := hw
  exact k_2 n g x1 0 _ _ _ hP hD hS (lv_sub hl [1, 2, 0] rfl) hw
set_option maxHeartbeats 4000000 in
set_option maxRecDepth 100000 in
theorem c_M_waiting (l : Launch) (D : va_G) (a : Nat → Nat) (cI cZ : ClassId) (sz : Nat) (g : St) (x1 : Int32) (Q : Int32 → St → Prop) (hw : wp_M_waiting g x1 Q) : MT_i l y_M_waiting b_M_waiting 4 rm_M_waiting (wM a cI cZ) D (ty_ cI cZ) sz g [.ref (a 0), .int x1] Q := by
  refine MTi_of (by decide +kernel) (Nat.le_of_ble_eq_true rfl) ?_
  intro p e s m args below meth c A Qt ls hx hb hml hts hown hN hK hP hD hA hl hret
  have hS : va_S A s.heap s.heap [] := va_S.rf
  have hl : lv_has ls 4 [(0, .ref (a 0)), (1, .int x1)] := hl
  have k_4 : ∀ (n : Nat) (g : St) (x1 : Int32) (x2 : Int32) (x3 : Int32) (H : Heap) (locs : List Loc) (ls : Array Slot), va_P D cls_ (wM a cI cZ g) H → va_D A (wM a cI cZ g) → va_S A s.heap H locs → lv_has ls 4 [(0, .ref (a 0)), (1, .int x1), (2, .int x2), (3, .int x3)] → wl_M_waiting_4 Q n g x1 x2 x3 → W p l e rm_M_waiting s m args below meth c H locs 0 0 Qt (F0 m 4 ls []) := by
    intro n
    induction n with
    | zero => intro g x1 x2 x3 H locs ls hP hD hS hl hw; exact False.elim hw
    | succ n_4 ih_4 =>
      intro g x1 x2 x3 H locs ls hP hD hS hl hw
      unfold wl_M_waiting_4 at hw
      refine lv_iload_n hx hb d_M_waiting_4 rfl (lv_at hl 3 rfl) ?_
      refine lv_aload_n hx hb d_M_waiting_5 rfl (lv_at hl 0 rfl) ?_
      refine va_get (D := D) (ci := 5) (C := R_M) (T := F_M) (N := 19) hx hb hts in_M hown hK hP 0 rfl rfl 1 (by decide) (hts _ tb_370) (fun _ h9 => h9) rfl d_M_waiting_6 ?_
      refine lv_icmp_ge (tgt := 44) hx hb d_M_waiting_9 (by decide) (fun hc => ?_) (fun hc => ?_)
      · replace hw := hw.1 hc
        refine lv_iload_n hx hb d_M_waiting_44 rfl (lv_at hl 1 rfl) ?_
        refine lv_if_lt (tgt := 53) hx hb d_M_waiting_45 (by decide) (fun hc => ?_) (fun hc => ?_)
        · replace hw := hw.1 hc
          refine lv_iconst (v := (-1)) hx hb d_M_waiting_53 (by decide) ?_
          refine lv_goto (tgt := 58) hx hb d_M_waiting_54 (by decide) ?_
          exact hret _ _ _ _ _ _ hw hP hD hS d_M_waiting_58
        · replace hw := hw.2 hc
          refine lv_iload_n hx hb d_M_waiting_48 rfl (lv_at hl 1 rfl) ?_
          refine lv_iconst (v := 1) hx hb d_M_waiting_49 (by decide) ?_
          refine lv_icmp_le (tgt := 57) hx hb d_M_waiting_50 (by decide) (fun hc => ?_) (fun hc => ?_)
          · replace hw := hw.1 hc
            refine lv_iload_n hx hb d_M_waiting_57 rfl (lv_at hl 2 rfl) ?_
            exact hret _ _ _ _ _ _ hw hP hD hS d_M_waiting_58
          · replace hw := hw.2 hc
            refine lv_iconst (v := (-1)) hx hb d_M_waiting_53 (by decide) ?_
            refine lv_goto (tgt := 58) hx hb d_M_waiting_54 (by decide) ?_
            exact hret _ _ _ _ _ _ hw hP hD hS d_M_waiting_58
      · replace hw := hw.2 hc
        refine lv_aload_n hx hb d_M_waiting_12 rfl (lv_at hl 0 rfl) ?_
        refine lv_iload_n hx hb d_M_waiting_13 rfl (lv_at hl 3 rfl) ?_
        refine aft_i (va_runV (As := [.int x3]) (rest := []) ⟨hx, hb, hml, hown, hts⟩ (c_M_waits l D a cI cZ _ g x3 _ hw) ⟨(callB_of 1 hts good_M_waits rfl rfl rfl (hts _ tb_6) (hts _ tb_439) hd_M_waits ⟨Nat.le_of_ble_eq_true rfl, Nat.le_of_ble_eq_true rfl⟩), hts _ tb_441, hts _ ts_29⟩ (preV 0 5 hP hD hK hN rfl rfl) rfl rfl hl.1 rfl (lv_room (Nat.le_of_ble_eq_true rfl)) d_M_waiting_14 ⟨Nat.zero_le _, Nat.zero_le _⟩) hD hS hA hK (fun r14 u14 H locs hw hP hD hS => ?_)
        refine lv_if_eq (tgt := 36) hx hb d_M_waiting_17 (by decide) (fun hc => ?_) (fun hc => ?_)
        · replace hw := hw.1 hc
          refine lv_iload_n hx hb d_M_waiting_36 rfl (lv_at hl 2 rfl) ?_
          refine lv_istore_n (lv' := [(2, .int x2), (0, .ref (a 0)), (1, .int x1), (3, .int x3)]) hx hb d_M_waiting_37 rfl hl (by decide) rfl (fun ls hl => ?_)
          refine lv_iinc (k := 3) (v := x3 + 1) (lv' := [(3, .int (x3 + 1)), (2, .int x2), (0, .ref (a 0)), (1, .int x1)]) hx hb d_M_waiting_38 hl rfl rfl (by decide) rfl (fun ls hl => ?_)
          refine lv_goto (tgt := 4) hx hb d_M_waiting_41 (by decide) ?_
          exact ih_4 u14 x1 x2 (x3 + 1) _ _ _ hP hD hS (lv_sub hl [2, 3, 1, 0] rfl) hw
        · replace hw := hw.2 hc
          refine lv_aload_n hx hb d_M_waiting_20 rfl (lv_at hl 0 rfl) ?_
          refine va_get (D := D) (ci := 5) (C := R_M) (T := F_M) (N := 19) hx hb hts in_M hown hK hP 0 rfl rfl 2 (by decide) (hts _ tb_371) (fun _ h9 => h9) rfl d_M_waiting_21 ?_
          refine lv_iload_n hx hb d_M_waiting_24 rfl (lv_at hl 3 rfl) ?_
          refine va_iald hx hb hK hP 2 0 rfl rfl hw.1 d_M_waiting_25 ?_
          replace hw := hw.2
          refine lv_iload_n hx hb d_M_waiting_26 rfl (lv_at hl 1 rfl) ?_
          refine lv_icmp_ne (tgt := 36) hx hb d_M_waiting_27 (by decide) (fun hc => ?_) (fun hc => ?_)
          · replace hw := hw.1 hc
            refine lv_iload_n hx hb d_M_waiting_36 rfl (lv_at hl 2 rfl) ?_
            refine lv_istore_n (lv' := [(2, .int x2), (0, .ref (a 0)), (1, .int x1), (3, .int x3)]) hx hb d_M_waiting_37 rfl hl (by decide) rfl (fun ls hl => ?_)
            refine lv_iinc (k := 3) (v := x3 + 1) (lv' := [(3, .int (x3 + 1)), (2, .int x2), (0, .ref (a 0)), (1, .int x1)]) hx hb d_M_waiting_38 hl rfl rfl (by decide) rfl (fun ls hl => ?_)
            refine lv_goto (tgt := 4) hx hb d_M_waiting_41 (by decide) ?_
            exact ih_4 u14 x1 x2 (x3 + 1) _ _ _ hP hD hS (lv_sub hl [2, 3, 1, 0] rfl) hw
          · replace hw := hw.2 hc
            refine lv_iload_n hx hb d_M_waiting_30 rfl (lv_at hl 2 rfl) ?_
            refine lv_iconst (v := 1) hx hb d_M_waiting_31 (by decide) ?_
            refine lv_iadd hx hb d_M_waiting_32 ?_
            refine lv_goto (tgt := 37) hx hb d_M_waiting_33 (by decide) ?_
            refine lv_istore_n (lv' := [(2, .int (x2 + 1)), (0, .ref (a 0)), (1, .int x1), (3, .int x3)]) hx hb d_M_waiting_37 rfl hl (by decide) rfl (fun ls hl => ?_)
            refine lv_iinc (k := 3) (v := x3 + 1) (lv' := [(3, .int (x3 + 1)), (2, .int (x2 + 1)), (0, .ref (a 0)), (1, .int x1)]) hx hb d_M_waiting_38 hl rfl rfl (by decide) rfl (fun ls hl => ?_)
            refine lv_goto (tgt := 4) hx hb d_M_waiting_41 (by decide) ?_
            exact ih_4 u14 x1 (x2 + 1) (x3 + 1) _ _ _ hP hD hS (lv_sub hl [2, 3, 1, 0] rfl) hw
  unfold wp_M_waiting at hw
  refine lv_iconst (v := 0) hx hb d_M_waiting_0 (by decide) ?_
  refine lv_istore_n (lv' := [(2, .int 0), (0, .ref (a 0)), (1, .int x1)]) hx hb d_M_waiting_1 rfl hl (by decide) rfl (fun ls hl => ?_)
  refine lv_iconst (v := 0) hx hb d_M_waiting_2 (by decide) ?_
  refine lv_istore_n (lv' := [(3, .int 0), (2, .int 0), (0, .ref (a 0)), (1, .int x1)]) hx hb d_M_waiting_3 rfl hl (by decide) rfl (fun ls hl => ?_)
  obtain ⟨n, hw⟩ := hw
  exact k_4 n g x1 0 0 _ _ _ hP hD hS (lv_sub hl [2, 3, 1, 0] rfl) hw
set_option maxHeartbeats 4000000 in
set_option maxRecDepth 100000 in
theorem c_M_come (l : Launch) (D : va_G) (a : Nat → Nat) (cI cZ : ClassId) (sz : Nat) (g : St) (x1 : Int32) (x2 : Int32) (x3 : Int32) (x4 : Int32) (Q : Int32 → St → Prop) (hw : wp_M_come g x1 x2 x3 x4 Q) : MT_i l y_M_come b_M_come 7 rm_M_come (wM a cI cZ) D (ty_ cI cZ) sz g [.ref (a 0), .int x1, .int x2, .int x3, .int x4] Q := by
  refine MTi_of (by decide +kernel) (Nat.le_of_ble_eq_true rfl) ?_
  intro p e s m args below meth c A Qt ls hx hb hml hts hown hN hK hP hD hA hl hret
  have hS : va_S A s.heap s.heap [] := va_S.rf
  have hl : lv_has ls 7 [(0, .ref (a 0)), (1, .int x1), (2, .int x2), (3, .int x3), (4, .int x4)] := hl
  unfold wp_M_come at hw
  refine lv_iload_n hx hb d_M_come_0 rfl (lv_at hl 3 rfl) ?_
  refine lv_iconst (v := 1) hx hb d_M_come_1 (by decide) ?_
  refine lv_icmp_lt (tgt := 23) hx hb d_M_come_2 (by decide) (fun hc => ?_) (fun hc => ?_)
  · replace hw := hw.1 hc
    refine lv_iconst (v := (-1)) hx hb d_M_come_23 (by decide) ?_
    exact hret _ _ _ _ _ _ hw hP hD hS d_M_come_24
  · replace hw := hw.2 hc
    refine lv_iload_n hx hb d_M_come_5 rfl (lv_at hl 3 rfl) ?_
    refine lv_bipush (v := 8) hx hb d_M_come_6 (by decide) ?_
    refine lv_icmp_gt (tgt := 23) hx hb d_M_come_8 (by decide) (fun hc => ?_) (fun hc => ?_)
    · replace hw := hw.1 hc
      refine lv_iconst (v := (-1)) hx hb d_M_come_23 (by decide) ?_
      exact hret _ _ _ _ _ _ hw hP hD hS d_M_come_24
    · replace hw := hw.2 hc
      refine lv_iload_n hx hb d_M_come_11 rfl (lv_at hl 2 rfl) ?_
      refine lv_if_lt (tgt := 23) hx hb d_M_come_12 (by decide) (fun hc => ?_) (fun hc => ?_)
      · replace hw := hw.1 hc
        refine lv_iconst (v := (-1)) hx hb d_M_come_23 (by decide) ?_
        exact hret _ _ _ _ _ _ hw hP hD hS d_M_come_24
      · replace hw := hw.2 hc
        refine lv_iload_n hx hb d_M_come_15 rfl (lv_at hl 2 rfl) ?_
        refine lv_bipush (v := 64) hx hb d_M_come_16 (by decide) ?_
        refine lv_iload_n hx hb d_M_come_18 rfl (lv_at hl 3 rfl) ?_
        refine lv_isub hx hb d_M_come_19 ?_
        refine lv_icmp_le (tgt := 25) hx hb d_M_come_20 (by decide) (fun hc => ?_) (fun hc => ?_)
        · replace hw := hw.1 hc
          refine lv_aload_n hx hb d_M_come_25 rfl (lv_at hl 0 rfl) ?_
          refine va_get (D := D) (ci := 5) (C := R_M) (T := F_M) (N := 19) hx hb hts in_M hown hK hP 0 rfl rfl 1 (by decide) (hts _ tb_370) (fun _ h9 => h9) rfl d_M_come_26 ?_
          refine lv_sipush (v := 200) hx hb d_M_come_29 (by decide) ?_
          refine lv_icmp_eq (tgt := 51) hx hb d_M_come_32 (by decide) (fun hc => ?_) (fun hc => ?_)
          · replace hw := hw.1 hc
            refine lv_bipush (v := (-2)) hx hb d_M_come_51 (by decide) ?_
            exact hret _ _ _ _ _ _ hw hP hD hS d_M_come_53
          · replace hw := hw.2 hc
            refine lv_aload_n hx hb d_M_come_35 rfl (lv_at hl 0 rfl) ?_
            refine lv_iconst (v := 0) hx hb d_M_come_36 (by decide) ?_
            refine aft_i (va_runV (As := [.int 0]) (rest := []) ⟨hx, hb, hml, hown, hts⟩ (c_M_waiting l D a cI cZ _ g 0 _ hw) ⟨(callB_of 1 hts good_M_waiting rfl rfl rfl (hts _ tb_6) (hts _ tb_435) hd_M_waiting ⟨Nat.le_of_ble_eq_true rfl, Nat.le_of_ble_eq_true rfl⟩), hts _ tb_436, hts _ tb_437⟩ (preV 0 5 hP hD hK hN rfl rfl) rfl rfl hl.1 rfl (lv_room (Nat.le_of_ble_eq_true rfl)) d_M_come_37 ⟨Nat.zero_le _, Nat.zero_le _⟩) hD hS hA hK (fun r37 u37 H locs hw hP hD hS => ?_)
            refine lv_aload_n hx hb d_M_come_40 rfl (lv_at hl 0 rfl) ?_
            refine lv_iconst (v := 1) hx hb d_M_come_41 (by decide) ?_
            refine aft_i (va_runV (As := [.int 1]) (rest := [.int r37]) ⟨hx, hb, hml, hown, hts⟩ (c_M_waiting l D a cI cZ _ u37 1 _ hw) ⟨(callB_of 1 hts good_M_waiting rfl rfl rfl (hts _ tb_6) (hts _ tb_435) hd_M_waiting ⟨Nat.le_of_ble_eq_true rfl, Nat.le_of_ble_eq_true rfl⟩), hts _ tb_436, hts _ tb_437⟩ (preV 0 5 hP hD hK hN rfl rfl) rfl rfl hl.1 rfl (lv_room (Nat.le_of_ble_eq_true rfl)) d_M_come_42 ⟨Nat.zero_le _, Nat.zero_le _⟩) hD hS hA hK (fun r42 u42 H locs hw hP hD hS => ?_)
            refine lv_iadd hx hb d_M_come_45 ?_
            refine lv_bipush (v := 24) hx hb d_M_come_46 (by decide) ?_
            refine lv_icmp_ne (tgt := 54) hx hb d_M_come_48 (by decide) (fun hc => ?_) (fun hc => ?_)
            · replace hw := hw.1 hc
              refine lv_aload_n hx hb d_M_come_54 rfl (lv_at hl 0 rfl) ?_
              refine va_get (D := D) (ci := 5) (C := R_M) (T := F_M) (N := 19) hx hb hts in_M hown hK hP 0 rfl rfl 1 (by decide) (hts _ tb_370) (fun _ h9 => h9) rfl d_M_come_55 ?_
              refine lv_istore (lv' := [(5, .int (u42.2.1 0)), (0, .ref (a 0)), (1, .int x1), (2, .int x2), (3, .int x3), (4, .int x4)]) hx hb d_M_come_58 hl (by decide) rfl (fun ls hl => ?_)
              refine lv_aload_n hx hb d_M_come_60 rfl (lv_at hl 1 rfl) ?_
              refine va_get (D := D) (ci := 5) (C := R_M) (T := F_M) (N := 19) hx hb hts in_M hown hK hP 0 rfl rfl 2 (by decide) (hts _ tb_371) (fun _ h9 => h9) rfl d_M_come_61 ?_
              refine lv_iload hx hb d_M_come_64 (lv_at hl 0 rfl) ?_
              refine lv_iload_n hx hb d_M_come_66 rfl (lv_at hl 2 rfl) ?_
              refine va_iast hx hb hK hP hD hS 2 0 rfl rfl hw.1 d_M_come_67 (fun H locs hP hD hS => ?_)
              replace hw := hw.2
              have hP : va_P D cls_ (wM a cI cZ (sA u42 1 (u42.2.1 0).toNatClampNeg x1)) H := pA_M_1 (g := u42) (j := (u42.2.1 0).toNatClampNeg) (x := x1) hP
              have hD : va_D A (wM a cI cZ (sA u42 1 (u42.2.1 0).toNatClampNeg x1)) := dA_M_1 (g := u42) (j := (u42.2.1 0).toNatClampNeg) (x := x1) hD
              generalize sA u42 1 (u42.2.1 0).toNatClampNeg x1 = g_67 at hw hP hD
              refine lv_aload_n hx hb d_M_come_68 rfl (lv_at hl 1 rfl) ?_
              refine va_get (D := D) (ci := 5) (C := R_M) (T := F_M) (N := 19) hx hb hts in_M hown hK hP 0 rfl rfl 3 (by decide) (hts _ tb_372) (fun _ h9 => h9) rfl d_M_come_69 ?_
              refine lv_iload hx hb d_M_come_72 (lv_at hl 0 rfl) ?_
              refine lv_iload_n hx hb d_M_come_74 rfl (lv_at hl 3 rfl) ?_
              refine va_iast hx hb hK hP hD hS 3 0 rfl rfl hw.1 d_M_come_75 (fun H locs hP hD hS => ?_)
              replace hw := hw.2
              have hP : va_P D cls_ (wM a cI cZ (sA g_67 2 (u42.2.1 0).toNatClampNeg x2)) H := pA_M_2 (g := g_67) (j := (u42.2.1 0).toNatClampNeg) (x := x2) hP
              have hD : va_D A (wM a cI cZ (sA g_67 2 (u42.2.1 0).toNatClampNeg x2)) := dA_M_2 (g := g_67) (j := (u42.2.1 0).toNatClampNeg) (x := x2) hD
              generalize sA g_67 2 (u42.2.1 0).toNatClampNeg x2 = g_75 at hw hP hD
              refine lv_aload_n hx hb d_M_come_76 rfl (lv_at hl 1 rfl) ?_
              refine va_get (D := D) (ci := 5) (C := R_M) (T := F_M) (N := 19) hx hb hts in_M hown hK hP 0 rfl rfl 4 (by decide) (hts _ tb_373) (fun _ h9 => h9) rfl d_M_come_77 ?_
              refine lv_iload hx hb d_M_come_80 (lv_at hl 0 rfl) ?_
              refine lv_iload_n hx hb d_M_come_82 rfl (lv_at hl 4 rfl) ?_
              refine va_iast hx hb hK hP hD hS 4 0 rfl rfl hw.1 d_M_come_83 (fun H locs hP hD hS => ?_)
              replace hw := hw.2
              have hP : va_P D cls_ (wM a cI cZ (sA g_75 3 (u42.2.1 0).toNatClampNeg x3)) H := pA_M_3 (g := g_75) (j := (u42.2.1 0).toNatClampNeg) (x := x3) hP
              have hD : va_D A (wM a cI cZ (sA g_75 3 (u42.2.1 0).toNatClampNeg x3)) := dA_M_3 (g := g_75) (j := (u42.2.1 0).toNatClampNeg) (x := x3) hD
              generalize sA g_75 3 (u42.2.1 0).toNatClampNeg x3 = g_83 at hw hP hD
              refine lv_aload_n hx hb d_M_come_84 rfl (lv_at hl 1 rfl) ?_
              refine va_get (D := D) (ci := 5) (C := R_M) (T := F_M) (N := 19) hx hb hts in_M hown hK hP 0 rfl rfl 5 (by decide) (hts _ tb_374) (fun _ h9 => h9) rfl d_M_come_85 ?_
              refine lv_iload hx hb d_M_come_88 (lv_at hl 0 rfl) ?_
              refine lv_iload hx hb d_M_come_90 (lv_at hl 5 rfl) ?_
              refine va_iast hx hb hK hP hD hS 5 0 rfl rfl hw.1 d_M_come_92 (fun H locs hP hD hS => ?_)
              replace hw := hw.2
              have hP : va_P D cls_ (wM a cI cZ (sA g_83 4 (u42.2.1 0).toNatClampNeg x4)) H := pA_M_4 (g := g_83) (j := (u42.2.1 0).toNatClampNeg) (x := x4) hP
              have hD : va_D A (wM a cI cZ (sA g_83 4 (u42.2.1 0).toNatClampNeg x4)) := dA_M_4 (g := g_83) (j := (u42.2.1 0).toNatClampNeg) (x := x4) hD
              generalize sA g_83 4 (u42.2.1 0).toNatClampNeg x4 = g_92 at hw hP hD
              refine lv_aload_n hx hb d_M_come_93 rfl (lv_at hl 1 rfl) ?_
              refine lv_iload hx hb d_M_come_94 (lv_at hl 0 rfl) ?_
              refine aft_i (va_runV (As := [.int (u42.2.1 0)]) (rest := []) ⟨hx, hb, hml, hown, hts⟩ (c_M_joined l D a cI cZ _ g_92 (u42.2.1 0) _ hw) ⟨(callB_of 1 hts good_M_joined rfl rfl rfl (hts _ tb_6) (hts _ tb_443) hd_M_joined ⟨Nat.le_of_ble_eq_true rfl, Nat.le_of_ble_eq_true rfl⟩), hts _ tb_445, hts _ ts_30⟩ (preV 0 5 hP hD hK hN rfl rfl) rfl rfl hl.1 rfl (lv_room (Nat.le_of_ble_eq_true rfl)) d_M_come_96 ⟨Nat.zero_le _, Nat.zero_le _⟩) hD hS hA hK (fun r96 u96 H locs hw hP hD hS => ?_)
              refine lv_istore (lv' := [(6, .int r96), (5, .int (u42.2.1 0)), (0, .ref (a 0)), (1, .int x1), (2, .int x2), (3, .int x3), (4, .int x4)]) hx hb d_M_come_99 hl (by decide) rfl (fun ls hl => ?_)
              refine lv_aload_n hx hb d_M_come_101 rfl (lv_at hl 2 rfl) ?_
              refine lv_aload_n hx hb d_M_come_102 rfl (lv_at hl 2 rfl) ?_
              refine va_get (D := D) (ci := 5) (C := R_M) (T := F_M) (N := 19) hx hb hts in_M hown hK hP 0 rfl rfl 1 (by decide) (hts _ tb_370) (fun _ h9 => h9) rfl d_M_come_103 ?_
              refine lv_iconst (v := 1) hx hb d_M_come_106 (by decide) ?_
              refine lv_iadd hx hb d_M_come_107 ?_
              refine va_put (v := .int ((u96.2.1 0) + 1)) (ty := .int) (D := D) (ci := 5) (C := R_M) (T := F_M) (N := 19) hx hb hts in_M t_M t_M_ok n_M hown hK hP hD hS 0 rfl rfl 1 (by decide) (hts _ tb_370) (fun _ h9 => h9) rfl (by decide +kernel) rfl rfl (Nat.le_of_ble_eq_true rfl) d_M_come_108 (fun H locs hP hD hS => ?_)
              have hP : va_P D cls_ (wM a cI cZ (sI u96 0 ((u96.2.1 0) + 1))) H := pI_M_0 (g := u96) (v := (u96.2.1 0) + 1) hP
              have hD : va_D A (wM a cI cZ (sI u96 0 ((u96.2.1 0) + 1))) := dI_M_0 (g := u96) (v := (u96.2.1 0) + 1) hD
              generalize sI u96 0 ((u96.2.1 0) + 1) = g_108 at hw hP hD
              refine lv_aload_n hx hb d_M_come_111 rfl (lv_at hl 2 rfl) ?_
              refine va_get (D := D) (ci := 5) (C := R_M) (T := F_M) (N := 19) hx hb hts in_M hown hK hP 0 rfl rfl 6 (by decide) (hts _ tb_375) (fun _ h9 => h9) rfl d_M_come_112 ?_
              refine lv_iload hx hb d_M_come_115 (lv_at hl 1 rfl) ?_
              refine lv_iload hx hb d_M_come_117 (lv_at hl 0 rfl) ?_
              refine va_iast hx hb hK hP hD hS 6 0 rfl rfl hw.1 d_M_come_119 (fun H locs hP hD hS => ?_)
              replace hw := hw.2
              have hP : va_P D cls_ (wM a cI cZ (sA g_108 5 (u42.2.1 0).toNatClampNeg r96)) H := pA_M_5 (g := g_108) (j := (u42.2.1 0).toNatClampNeg) (x := r96) hP
              have hD : va_D A (wM a cI cZ (sA g_108 5 (u42.2.1 0).toNatClampNeg r96)) := dA_M_5 (g := g_108) (j := (u42.2.1 0).toNatClampNeg) (x := r96) hD
              generalize sA g_108 5 (u42.2.1 0).toNatClampNeg r96 = g_119 at hw hP hD
              refine lv_aload_n hx hb d_M_come_120 rfl (lv_at hl 2 rfl) ?_
              refine va_get (D := D) (ci := 5) (C := R_M) (T := F_M) (N := 19) hx hb hts in_M hown hK hP 0 rfl rfl 7 (by decide) (hts _ tb_376) (fun _ h9 => h9) rfl d_M_come_121 ?_
              refine lv_iload hx hb d_M_come_124 (lv_at hl 1 rfl) ?_
              refine lv_iconst (v := 1) hx hb d_M_come_126 (by decide) ?_
              refine va_iast hx hb hK hP hD hS 7 0 rfl rfl hw.1 d_M_come_127 (fun H locs hP hD hS => ?_)
              replace hw := hw.2
              have hP : va_P D cls_ (wM a cI cZ (sA g_119 6 (u42.2.1 0).toNatClampNeg 1)) H := pA_M_6 (g := g_119) (j := (u42.2.1 0).toNatClampNeg) (x := 1) hP
              have hD : va_D A (wM a cI cZ (sA g_119 6 (u42.2.1 0).toNatClampNeg 1)) := dA_M_6 (g := g_119) (j := (u42.2.1 0).toNatClampNeg) (x := 1) hD
              generalize sA g_119 6 (u42.2.1 0).toNatClampNeg 1 = g_127 at hw hP hD
              refine lv_iload hx hb d_M_come_128 (lv_at hl 0 rfl) ?_
              refine lv_iload hx hb d_M_come_130 (lv_at hl 1 rfl) ?_
              refine lv_icmp_ne (tgt := 164) hx hb d_M_come_132 (by decide) (fun hc => ?_) (fun hc => ?_)
              · replace hw := hw.1 hc
                refine lv_iload hx hb d_M_come_164 (lv_at hl 1 rfl) ?_
                exact hret _ _ _ _ _ _ hw hP hD hS d_M_come_166
              · replace hw := hw.2 hc
                refine lv_aload_n hx hb d_M_come_135 rfl (lv_at hl 2 rfl) ?_
                refine va_get (D := D) (ci := 5) (C := R_M) (T := F_M) (N := 19) hx hb hts in_M hown hK hP 0 rfl rfl 9 (by decide) (hts _ tb_378) (fun _ h9 => h9) rfl d_M_come_136 ?_
                refine lv_iload hx hb d_M_come_139 (lv_at hl 1 rfl) ?_
                refine lv_aload_n hx hb d_M_come_141 rfl (lv_at hl 2 rfl) ?_
                refine va_get (D := D) (ci := 5) (C := R_M) (T := F_M) (N := 19) hx hb hts in_M hown hK hP 0 rfl rfl 12 (by decide) (hts _ tb_381) (fun _ h9 => h9) rfl d_M_come_142 ?_
                refine lv_aload_n hx hb d_M_come_145 rfl (lv_at hl 2 rfl) ?_
                refine va_get (D := D) (ci := 5) (C := R_M) (T := F_M) (N := 19) hx hb hts in_M hown hK hP 0 rfl rfl 13 (by decide) (hts _ tb_382) (fun _ h9 => h9) rfl d_M_come_146 ?_
                refine lv_iload_n hx hb d_M_come_149 rfl (lv_at hl 3 rfl) ?_
                refine va_iald hx hb hK hP 11 0 rfl rfl hw.1 d_M_come_150 ?_
                replace hw := hw.2
                refine lv_iadd hx hb d_M_come_151 ?_
                refine va_iast hx hb hK hP hD hS 9 0 rfl rfl hw.1 d_M_come_152 (fun H locs hP hD hS => ?_)
                replace hw := hw.2
                have hP : va_P D cls_ (wM a cI cZ (sA g_127 8 (u42.2.1 0).toNatClampNeg ((g_127.2.1 2) + (g_127.1 10 x1.toNatClampNeg)))) H := pA_M_8 (g := g_127) (j := (u42.2.1 0).toNatClampNeg) (x := ((g_127.2.1 2) + (g_127.1 10 x1.toNatClampNeg))) hP
                have hD : va_D A (wM a cI cZ (sA g_127 8 (u42.2.1 0).toNatClampNeg ((g_127.2.1 2) + (g_127.1 10 x1.toNatClampNeg)))) := dA_M_8 (g := g_127) (j := (u42.2.1 0).toNatClampNeg) (x := ((g_127.2.1 2) + (g_127.1 10 x1.toNatClampNeg))) hD
                generalize sA g_127 8 (u42.2.1 0).toNatClampNeg ((g_127.2.1 2) + (g_127.1 10 x1.toNatClampNeg)) = g_152 at hw hP hD
                refine lv_aload_n hx hb d_M_come_153 rfl (lv_at hl 2 rfl) ?_
                refine va_get (D := D) (ci := 5) (C := R_M) (T := F_M) (N := 19) hx hb hts in_M hown hK hP 0 rfl rfl 10 (by decide) (hts _ tb_379) (fun _ h9 => h9) rfl d_M_come_154 ?_
                refine lv_iload hx hb d_M_come_157 (lv_at hl 1 rfl) ?_
                refine lv_aload_n hx hb d_M_come_159 rfl (lv_at hl 2 rfl) ?_
                refine va_get (D := D) (ci := 5) (C := R_M) (T := F_M) (N := 19) hx hb hts in_M hown hK hP 0 rfl rfl 11 (by decide) (hts _ tb_380) (fun _ h9 => h9) rfl d_M_come_160 ?_
                refine va_iast hx hb hK hP hD hS 10 0 rfl rfl hw.1 d_M_come_163 (fun H locs hP hD hS => ?_)
                replace hw := hw.2
                have hP : va_P D cls_ (wM a cI cZ (sA g_152 9 (u42.2.1 0).toNatClampNeg (g_152.2.1 1))) H := pA_M_9 (g := g_152) (j := (u42.2.1 0).toNatClampNeg) (x := (g_152.2.1 1)) hP
                have hD : va_D A (wM a cI cZ (sA g_152 9 (u42.2.1 0).toNatClampNeg (g_152.2.1 1))) := dA_M_9 (g := g_152) (j := (u42.2.1 0).toNatClampNeg) (x := (g_152.2.1 1)) hD
                generalize sA g_152 9 (u42.2.1 0).toNatClampNeg (g_152.2.1 1) = g_163 at hw hP hD
                refine lv_iload hx hb d_M_come_164 (lv_at hl 1 rfl) ?_
                exact hret _ _ _ _ _ _ hw hP hD hS d_M_come_166
            · replace hw := hw.2 hc
              refine lv_bipush (v := (-2)) hx hb d_M_come_51 (by decide) ?_
              exact hret _ _ _ _ _ _ hw hP hD hS d_M_come_53
        · replace hw := hw.2 hc
          refine lv_iconst (v := (-1)) hx hb d_M_come_23 (by decide) ?_
          exact hret _ _ _ _ _ _ hw hP hD hS d_M_come_24
