def gE0 : St := (fun _ _ => 0, fun k => match k with | 5 => 50 | 6 => 500 | 10 => -1 | _ => 0, fun _ => 0)
def gM0 : St := (fun k => match k with | 10 => upd (upd (fun _ => 0) (0 : Int32).toNatClampNeg 50) (1 : Int32).toNatClampNeg 500 | _ => fun _ => 0, fun k => match k with | 7 => -1 | _ => 0, fun _ => 0)
abbrev rm_B_init : Room := { frames := 1, cells := 0, slots := 0, locals := 12 }
theorem good_B_init : GoodIn TB (.code y_B_init b_B_init 1 none :: TB) := good_of tb_113
theorem hd_B_init : y_B_init.cls ≠ "java/lang/invoke/MethodHandle" ∧ y_B_init.cls ≠ "java/lang/invoke/VarHandle" ∧ (parseMethodDescriptor y_B_init.desc).map (fun d => d.parameters.length) = some 0 := by decide +kernel
theorem d_B_init_0 : decode b_B_init 0 = .ok (.aload_n 0, 1) := by decide +kernel
theorem d_B_init_1 : decode b_B_init 1 = .ok (.invokespecial 3, 3) := by decide +kernel
theorem d_B_init_4 : decode b_B_init 4 = .ok (.aload_n 0, 1) := by decide +kernel
theorem d_B_init_5 : decode b_B_init 5 = .ok (.iconst 0, 1) := by decide +kernel
theorem d_B_init_6 : decode b_B_init 6 = .ok (.putfield 9, 3) := by decide +kernel
theorem d_B_init_9 : decode b_B_init 9 = .ok (.aload_n 0, 1) := by decide +kernel
theorem d_B_init_10 : decode b_B_init 10 = .ok (.iconst 0, 1) := by decide +kernel
theorem d_B_init_11 : decode b_B_init 11 = .ok (.putfield 15, 3) := by decide +kernel
theorem d_B_init_14 : decode b_B_init 14 = .ok (.aload_n 0, 1) := by decide +kernel
theorem d_B_init_15 : decode b_B_init 15 = .ok (.iconst 0, 1) := by decide +kernel
theorem d_B_init_16 : decode b_B_init 16 = .ok (.putfield 18, 3) := by decide +kernel
theorem d_B_init_19 : decode b_B_init 19 = .ok (.return_, 1) := by decide +kernel
set_option maxHeartbeats 4000000 in
set_option maxRecDepth 100000 in
theorem c_B_init (l : Launch) (D : va_G) (h0 sz : Nat) : Met l y_B_init (.code y_B_init b_B_init 1 none :: TB) rm_B_init (va_Pc [.ref h0] (fun U => U.heap.size = sz ∧ va_P D cls_ [(h0, .inr (0, [.int 0, .int 0, .int 0]))] U.heap ∧ va_K D cls_ [] U ∧ va_D (fun _ => True) [(h0, .inr (0, [.int 0, .int 0, .int 0]))] ∧ NW U)) (va_Qv (fun u : Unit => True) (fun u t => va_P D cls_ ([(h0, .inr (0, [.int 0, .int 0, .int 0]))]) t.heap ∧ va_K D cls_ ([]) t ∧ va_D (va_A [(h0, .inr (0, [.int 0, .int 0, .int 0]))] sz) ([(h0, .inr (0, [.int 0, .int 0, .int 0]))])) (va_A [(h0, .inr (0, [.int 0, .int 0, .int 0]))] sz)) 0 0 (va_A [(h0, .inr (0, [.int 0, .int 0, .int 0]))] sz) := by
  refine Met.ofW (cc := b_B_init) (maxL := 1) (ret := none) (by decide +kernel) rfl ?_
  intro p e s m args below meth c s₁ B hml hv
  obtain ⟨rfl, hsz, hP, hK, hD0, hN⟩ := hv
  have hx := B.exec
  have hb := B.bytes
  have hr := B.returns
  have hts0 := atoms_spec (ws := Cond.code y_B_init b_B_init 1 none :: TB) B.pre
  have hts : ∀ w ∈ TB, w.before _ s = true := fun w h => hts0 w (List.mem_cons_of_mem _ h)
  have hown : s.vm.findClass R_B = some m.cls := findClass_of_methodNamed B.named
  have hlocks := B.notSynchronized
  have hin : meth.name = "<init>" := (name_of_methodNamed B.named B.method).1
  subst hsz
  have hD := hD0.self (sz := s.heap.size)
  generalize hAe : va_A [(h0, .inr (0, [.int 0, .int 0, .int 0]))] s.heap.size = A at hD ⊢
  have hA : ∀ q : Nat, s.heap.size ≤ q → A q := fun q h => by rw [← hAe]; exact Or.inr h
  have hS : va_S A s.heap s.heap [] := va_S.rf
  have hl := lv_entry ([.ref h0]) (n := 1) (Nat.le_of_ble_eq_true rfl)
  rw [lg_entry_eq]
  generalize (lg_sl ([.ref h0]) ++ List.replicate (1 - (lg_sl ([.ref h0])).length) Slot.unset).toArray = ls at hl ⊢
  have hl : lv_has ls 1 [(0, .ref h0)] := hl
  refine lv_aload_n hx hb d_B_init_0 rfl (lv_at hl 0 rfl) ?_
  refine W.objInit hx hb hown (hts _ tb_114) (hts _ tb_15) (hts _ tb_16) rfl (by rw [hml]; exact hl.1) rfl d_B_init_1 (Nat.le_of_ble_eq_true rfl) (Nat.le_of_ble_eq_true rfl) ?_
  refine W.eq (g2 := F0 m 4 ls []) rfl ?_
  refine lv_aload_n hx hb d_B_init_4 rfl (lv_at hl 0 rfl) ?_
  refine lv_iconst (v := 0) hx hb d_B_init_5 (by decide) ?_
  refine va_put (D := D) (ci := 0) (v := .int 0) (ty := .int) (C := R_B) (T := F_B) (N := 3) hx hb hts in_B t_B t_B_ok n_B hown hK hP hD hS 0 rfl rfl 0 (by decide) (hts _ tb_115) (fun _ h9 => h9) rfl (by decide +kernel) rfl rfl (Nat.le_of_ble_eq_true rfl) d_B_init_6 (fun H locs hP hD hS => ?_)
  have hP : va_P D cls_ [(h0, .inr (0, [.int 0, .int 0, .int 0]))] H := hP
  have hD : va_D A [(h0, .inr (0, [.int 0, .int 0, .int 0]))] := hD
  refine lv_aload_n hx hb d_B_init_9 rfl (lv_at hl 0 rfl) ?_
  refine lv_iconst (v := 0) hx hb d_B_init_10 (by decide) ?_
  refine va_put (D := D) (ci := 0) (v := .int 0) (ty := .int) (C := R_B) (T := F_B) (N := 3) hx hb hts in_B t_B t_B_ok n_B hown hK hP hD hS 0 rfl rfl 1 (by decide) (hts _ tb_117) (fun _ h9 => h9) rfl (by decide +kernel) rfl rfl (Nat.le_of_ble_eq_true rfl) d_B_init_11 (fun H locs hP hD hS => ?_)
  have hP : va_P D cls_ [(h0, .inr (0, [.int 0, .int 0, .int 0]))] H := hP
  have hD : va_D A [(h0, .inr (0, [.int 0, .int 0, .int 0]))] := hD
  refine lv_aload_n hx hb d_B_init_14 rfl (lv_at hl 0 rfl) ?_
  refine lv_iconst (v := 0) hx hb d_B_init_15 (by decide) ?_
  refine va_put (D := D) (ci := 0) (v := .int 0) (ty := .int) (C := R_B) (T := F_B) (N := 3) hx hb hts in_B t_B t_B_ok n_B hown hK hP hD hS 0 rfl rfl 2 (by decide) (hts _ tb_119) (fun _ h9 => h9) rfl (by decide +kernel) rfl rfl (Nat.le_of_ble_eq_true rfl) d_B_init_16 (fun H locs hP hD hS => ?_)
  have hP : va_P D cls_ [(h0, .inr (0, [.int 0, .int 0, .int 0]))] H := hP
  have hD : va_D A [(h0, .inr (0, [.int 0, .int 0, .int 0]))] := hD
  have hP9 := hP.sub (ws' := [(h0, .inr (0, [.int 0, .int 0, .int 0]))]) [0] rfl
  have hD9 := hD.sub (ws' := [(h0, .inr (0, [.int 0, .int 0, .int 0]))]) [0] (by decide) rfl
  have hK9 : va_K D cls_ [] s := hK
  exact W.vret hx hb hr (fun t ht hW => ⟨⟨(), rfl, trivial, by rw [ht]; exact hP9, va_K.moved hW.alike hK9, hD9⟩, hS.F ht⟩) hS.2.2 d_B_init_19
abbrev rm_C_init : Room := { frames := 1, cells := 0, slots := 0, locals := 12 }
theorem good_C_init : GoodIn TB (.code y_C_init b_C_init 1 none :: TB) := good_of tb_100
theorem hd_C_init : y_C_init.cls ≠ "java/lang/invoke/MethodHandle" ∧ y_C_init.cls ≠ "java/lang/invoke/VarHandle" ∧ (parseMethodDescriptor y_C_init.desc).map (fun d => d.parameters.length) = some 0 := by decide +kernel
theorem d_C_init_0 : decode b_C_init 0 = .ok (.aload_n 0, 1) := by decide +kernel
theorem d_C_init_1 : decode b_C_init 1 = .ok (.invokespecial 3, 3) := by decide +kernel
theorem d_C_init_4 : decode b_C_init 4 = .ok (.aload_n 0, 1) := by decide +kernel
theorem d_C_init_5 : decode b_C_init 5 = .ok (.lconst 0, 1) := by decide +kernel
theorem d_C_init_6 : decode b_C_init 6 = .ok (.putfield 9, 3) := by decide +kernel
theorem d_C_init_9 : decode b_C_init 9 = .ok (.aload_n 0, 1) := by decide +kernel
theorem d_C_init_10 : decode b_C_init 10 = .ok (.lconst 0, 1) := by decide +kernel
theorem d_C_init_11 : decode b_C_init 11 = .ok (.putfield 15, 3) := by decide +kernel
theorem d_C_init_14 : decode b_C_init 14 = .ok (.return_, 1) := by decide +kernel
set_option maxHeartbeats 4000000 in
set_option maxRecDepth 100000 in
theorem c_C_init (l : Launch) (D : va_G) (h0 sz : Nat) : Met l y_C_init (.code y_C_init b_C_init 1 none :: TB) rm_C_init (va_Pc [.ref h0] (fun U => U.heap.size = sz ∧ va_P D cls_ [(h0, .inr (1, [.long 0, .long 0]))] U.heap ∧ va_K D cls_ [] U ∧ va_D (fun _ => True) [(h0, .inr (1, [.long 0, .long 0]))] ∧ NW U)) (va_Qv (fun u : Unit => True) (fun u t => va_P D cls_ ([(h0, .inr (1, [.long 0, .long 0]))]) t.heap ∧ va_K D cls_ ([]) t ∧ va_D (va_A [(h0, .inr (1, [.long 0, .long 0]))] sz) ([(h0, .inr (1, [.long 0, .long 0]))])) (va_A [(h0, .inr (1, [.long 0, .long 0]))] sz)) 0 0 (va_A [(h0, .inr (1, [.long 0, .long 0]))] sz) := by
  refine Met.ofW (cc := b_C_init) (maxL := 1) (ret := none) (by decide +kernel) rfl ?_
  intro p e s m args below meth c s₁ B hml hv
  obtain ⟨rfl, hsz, hP, hK, hD0, hN⟩ := hv
  have hx := B.exec
  have hb := B.bytes
  have hr := B.returns
  have hts0 := atoms_spec (ws := Cond.code y_C_init b_C_init 1 none :: TB) B.pre
  have hts : ∀ w ∈ TB, w.before _ s = true := fun w h => hts0 w (List.mem_cons_of_mem _ h)
  have hown : s.vm.findClass R_C = some m.cls := findClass_of_methodNamed B.named
  have hlocks := B.notSynchronized
  have hin : meth.name = "<init>" := (name_of_methodNamed B.named B.method).1
  subst hsz
  have hD := hD0.self (sz := s.heap.size)
  generalize hAe : va_A [(h0, .inr (1, [.long 0, .long 0]))] s.heap.size = A at hD ⊢
  have hA : ∀ q : Nat, s.heap.size ≤ q → A q := fun q h => by rw [← hAe]; exact Or.inr h
  have hS : va_S A s.heap s.heap [] := va_S.rf
  have hl := lv_entry ([.ref h0]) (n := 1) (Nat.le_of_ble_eq_true rfl)
  rw [lg_entry_eq]
  generalize (lg_sl ([.ref h0]) ++ List.replicate (1 - (lg_sl ([.ref h0])).length) Slot.unset).toArray = ls at hl ⊢
  have hl : lv_has ls 1 [(0, .ref h0)] := hl
  refine lv_aload_n hx hb d_C_init_0 rfl (lv_at hl 0 rfl) ?_
  refine W.objInit hx hb hown (hts _ tb_101) (hts _ tb_15) (hts _ tb_16) rfl (by rw [hml]; exact hl.1) rfl d_C_init_1 (Nat.le_of_ble_eq_true rfl) (Nat.le_of_ble_eq_true rfl) ?_
  refine W.eq (g2 := F0 m 4 ls []) rfl ?_
  refine lv_aload_n hx hb d_C_init_4 rfl (lv_at hl 0 rfl) ?_
  refine lv_lconst (v := 0) hx hb d_C_init_5 (by decide) ?_
  refine va_put (D := D) (ci := 1) (v := .long 0) (ty := .long) (C := R_C) (T := F_C) (N := 2) hx hb hts in_C t_C t_C_ok n_C hown hK hP hD hS 0 rfl rfl 0 (by decide) (hts _ tb_102) (fun _ h9 => h9) rfl (by decide +kernel) rfl rfl (Nat.le_of_ble_eq_true rfl) d_C_init_6 (fun H locs hP hD hS => ?_)
  have hP : va_P D cls_ [(h0, .inr (1, [.long 0, .long 0]))] H := hP
  have hD : va_D A [(h0, .inr (1, [.long 0, .long 0]))] := hD
  refine lv_aload_n hx hb d_C_init_9 rfl (lv_at hl 0 rfl) ?_
  refine lv_lconst (v := 0) hx hb d_C_init_10 (by decide) ?_
  refine va_put (D := D) (ci := 1) (v := .long 0) (ty := .long) (C := R_C) (T := F_C) (N := 2) hx hb hts in_C t_C t_C_ok n_C hown hK hP hD hS 0 rfl rfl 1 (by decide) (hts _ tb_103) (fun _ h9 => h9) rfl (by decide +kernel) rfl rfl (Nat.le_of_ble_eq_true rfl) d_C_init_11 (fun H locs hP hD hS => ?_)
  have hP : va_P D cls_ [(h0, .inr (1, [.long 0, .long 0]))] H := hP
  have hD : va_D A [(h0, .inr (1, [.long 0, .long 0]))] := hD
  have hP9 := hP.sub (ws' := [(h0, .inr (1, [.long 0, .long 0]))]) [0] rfl
  have hD9 := hD.sub (ws' := [(h0, .inr (1, [.long 0, .long 0]))]) [0] (by decide) rfl
  have hK9 : va_K D cls_ [] s := hK
  exact W.vret hx hb hr (fun t ht hW => ⟨⟨(), rfl, trivial, by rw [ht]; exact hP9, va_K.moved hW.alike hK9, hD9⟩, hS.F ht⟩) hS.2.2 d_C_init_14
abbrev rm_P_init : Room := { frames := 1, cells := 6, slots := 2600, locals := 12 }
theorem good_P_init : GoodIn TB (.code y_P_init b_P_init 1 none :: TB) := good_of tb_21
theorem hd_P_init : y_P_init.cls ≠ "java/lang/invoke/MethodHandle" ∧ y_P_init.cls ≠ "java/lang/invoke/VarHandle" ∧ (parseMethodDescriptor y_P_init.desc).map (fun d => d.parameters.length) = some 0 := by decide +kernel
theorem d_P_init_0 : decode b_P_init 0 = .ok (.aload_n 0, 1) := by decide +kernel
theorem d_P_init_1 : decode b_P_init 1 = .ok (.invokespecial 3, 3) := by decide +kernel
theorem d_P_init_4 : decode b_P_init 4 = .ok (.aload_n 0, 1) := by decide +kernel
theorem d_P_init_5 : decode b_P_init 5 = .ok (.sipush 200, 3) := by decide +kernel
theorem d_P_init_8 : decode b_P_init 8 = .ok (.newarray .int, 2) := by decide +kernel
theorem d_P_init_10 : decode b_P_init 10 = .ok (.putfield 9, 3) := by decide +kernel
theorem d_P_init_13 : decode b_P_init 13 = .ok (.aload_n 0, 1) := by decide +kernel
theorem d_P_init_14 : decode b_P_init 14 = .ok (.sipush 200, 3) := by decide +kernel
theorem d_P_init_17 : decode b_P_init 17 = .ok (.newarray .int, 2) := by decide +kernel
theorem d_P_init_19 : decode b_P_init 19 = .ok (.putfield 15, 3) := by decide +kernel
theorem d_P_init_22 : decode b_P_init 22 = .ok (.aload_n 0, 1) := by decide +kernel
theorem d_P_init_23 : decode b_P_init 23 = .ok (.sipush 200, 3) := by decide +kernel
theorem d_P_init_26 : decode b_P_init 26 = .ok (.newarray .int, 2) := by decide +kernel
theorem d_P_init_28 : decode b_P_init 28 = .ok (.putfield 18, 3) := by decide +kernel
theorem d_P_init_31 : decode b_P_init 31 = .ok (.aload_n 0, 1) := by decide +kernel
theorem d_P_init_32 : decode b_P_init 32 = .ok (.sipush 200, 3) := by decide +kernel
theorem d_P_init_35 : decode b_P_init 35 = .ok (.newarray .int, 2) := by decide +kernel
theorem d_P_init_37 : decode b_P_init 37 = .ok (.putfield 21, 3) := by decide +kernel
theorem d_P_init_40 : decode b_P_init 40 = .ok (.aload_n 0, 1) := by decide +kernel
theorem d_P_init_41 : decode b_P_init 41 = .ok (.sipush 200, 3) := by decide +kernel
theorem d_P_init_44 : decode b_P_init 44 = .ok (.newarray .boolean, 2) := by decide +kernel
theorem d_P_init_46 : decode b_P_init 46 = .ok (.putfield 24, 3) := by decide +kernel
theorem d_P_init_49 : decode b_P_init 49 = .ok (.aload_n 0, 1) := by decide +kernel
theorem d_P_init_50 : decode b_P_init 50 = .ok (.sipush 1600, 3) := by decide +kernel
theorem d_P_init_53 : decode b_P_init 53 = .ok (.newarray .int, 2) := by decide +kernel
theorem d_P_init_55 : decode b_P_init 55 = .ok (.putfield 28, 3) := by decide +kernel
theorem d_P_init_58 : decode b_P_init 58 = .ok (.aload_n 0, 1) := by decide +kernel
theorem d_P_init_59 : decode b_P_init 59 = .ok (.iconst 0, 1) := by decide +kernel
theorem d_P_init_60 : decode b_P_init 60 = .ok (.putfield 31, 3) := by decide +kernel
theorem d_P_init_63 : decode b_P_init 63 = .ok (.return_, 1) := by decide +kernel
set_option maxHeartbeats 4000000 in
set_option maxRecDepth 100000 in
theorem c_P_init (l : Launch) (D : va_G) (h0 sz : Nat) : Met l y_P_init (.code y_P_init b_P_init 1 none :: TB) rm_P_init (va_Pc [.ref h0] (fun U => U.heap.size = sz ∧ va_P D cls_ [(h0, .inr (2, [.null, .null, .null, .null, .null, .null, .int 0]))] U.heap ∧ va_K D cls_ [] U ∧ va_D (fun _ => True) [(h0, .inr (2, [.null, .null, .null, .null, .null, .null, .int 0]))] ∧ NW U)) (va_Qv (fun u : (Nat → Nat) × ClassId × ClassId => True) (fun u t => va_P D cls_ ([(h0, .inr (2, [.ref (u.1 0), .ref (u.1 1), .ref (u.1 2), .ref (u.1 3), .ref (u.1 4), .ref (u.1 5), .int 0])), ((u.1 0), .inl (u.2.1, 200, .inl (fun _ => 0))), ((u.1 1), .inl (u.2.1, 200, .inl (fun _ => 0))), ((u.1 2), .inl (u.2.1, 200, .inl (fun _ => 0))), ((u.1 3), .inl (u.2.1, 200, .inl (fun _ => 0))), ((u.1 4), .inl (u.2.2, 200, .inl (fun _ => 0))), ((u.1 5), .inl (u.2.1, 1600, .inl (fun _ => 0)))]) t.heap ∧ va_K D cls_ (ty_ u.2.1 u.2.2) t ∧ va_D (va_A [(h0, .inr (2, [.null, .null, .null, .null, .null, .null, .int 0]))] sz) ([(h0, .inr (2, [.ref (u.1 0), .ref (u.1 1), .ref (u.1 2), .ref (u.1 3), .ref (u.1 4), .ref (u.1 5), .int 0])), ((u.1 0), .inl (u.2.1, 200, .inl (fun _ => 0))), ((u.1 1), .inl (u.2.1, 200, .inl (fun _ => 0))), ((u.1 2), .inl (u.2.1, 200, .inl (fun _ => 0))), ((u.1 3), .inl (u.2.1, 200, .inl (fun _ => 0))), ((u.1 4), .inl (u.2.2, 200, .inl (fun _ => 0))), ((u.1 5), .inl (u.2.1, 1600, .inl (fun _ => 0)))])) (va_A [(h0, .inr (2, [.null, .null, .null, .null, .null, .null, .int 0]))] sz)) 6 2600 (va_A [(h0, .inr (2, [.null, .null, .null, .null, .null, .null, .int 0]))] sz) := by
  refine Met.ofW (cc := b_P_init) (maxL := 1) (ret := none) (by decide +kernel) rfl ?_
  intro p e s m args below meth c s₁ B hml hv
  obtain ⟨rfl, hsz, hP, hK, hD0, hN⟩ := hv
  have hx := B.exec
  have hb := B.bytes
  have hr := B.returns
  have hts0 := atoms_spec (ws := Cond.code y_P_init b_P_init 1 none :: TB) B.pre
  have hts : ∀ w ∈ TB, w.before _ s = true := fun w h => hts0 w (List.mem_cons_of_mem _ h)
  have hown : s.vm.findClass R_P = some m.cls := findClass_of_methodNamed B.named
  have hlocks := B.notSynchronized
  have hin : meth.name = "<init>" := (name_of_methodNamed B.named B.method).1
  subst hsz
  have hD := hD0.self (sz := s.heap.size)
  generalize hAe : va_A [(h0, .inr (2, [.null, .null, .null, .null, .null, .null, .int 0]))] s.heap.size = A at hD ⊢
  have hA : ∀ q : Nat, s.heap.size ≤ q → A q := fun q h => by rw [← hAe]; exact Or.inr h
  have hS : va_S A s.heap s.heap [] := va_S.rf
  have hl := lv_entry ([.ref h0]) (n := 1) (Nat.le_of_ble_eq_true rfl)
  rw [lg_entry_eq]
  generalize (lg_sl ([.ref h0]) ++ List.replicate (1 - (lg_sl ([.ref h0])).length) Slot.unset).toArray = ls at hl ⊢
  have hl : lv_has ls 1 [(0, .ref h0)] := hl
  refine lv_aload_n hx hb d_P_init_0 rfl (lv_at hl 0 rfl) ?_
  refine W.objInit hx hb hown (hts _ tb_22) (hts _ tb_15) (hts _ tb_16) rfl (by rw [hml]; exact hl.1) rfl d_P_init_1 (Nat.le_of_ble_eq_true rfl) (Nat.le_of_ble_eq_true rfl) ?_
  refine W.eq (g2 := F0 m 4 ls []) rfl ?_
  refine lv_aload_n hx hb d_P_init_4 rfl (lv_at hl 0 rfl) ?_
  refine lv_sipush (v := 200) hx hb d_P_init_5 (by decide) ?_
  refine va_newa (atype := .int) (ty := .int) (N' := 200) (a0 := (200, .inl (fun _ => 0))) hx hb (hts _ tb_51) rfl hK hP hD hS hA (fun _ => rfl) (by decide) (by decide) (by decide) (Nat.le_of_ble_eq_true rfl) (Nat.le_of_ble_eq_true rfl) d_P_init_8 (fun q8 c8 H hK hP hD hS => ?_)
  refine W.widen (k := 1) (n := 200) (by decide) (by decide) ?_
  have hK : va_K D cls_ [(c8, .int)] s := hK
  have hP : va_P D cls_ [(h0, .inr (2, [.null, .null, .null, .null, .null, .null, .int 0])), (q8, .inl (c8, 200, .inl (fun _ => 0)))] H := hP
  have hD : va_D A [(h0, .inr (2, [.null, .null, .null, .null, .null, .null, .int 0])), (q8, .inl (c8, 200, .inl (fun _ => 0)))] := hD
  refine va_putF (D := D) (ci := 2) (v := .ref q8) (ty := .array .int) (C := R_P) (T := F_P) (N := 7) hx hb hts in_P t_P t_P_ok n_P hown hK hP hD hS 0 rfl rfl 0 (by decide) (hts _ tb_23) (fun _ h9 => h9) rfl hin rfl (by decide +kernel) rfl rfl (Nat.le_of_ble_eq_true rfl) d_P_init_10 (fun H locs hP hD hS => ?_)
  have hP : va_P D cls_ [(h0, .inr (2, [.ref q8, .null, .null, .null, .null, .null, .int 0])), (q8, .inl (c8, 200, .inl (fun _ => 0)))] H := hP
  have hD : va_D A [(h0, .inr (2, [.ref q8, .null, .null, .null, .null, .null, .int 0])), (q8, .inl (c8, 200, .inl (fun _ => 0)))] := hD
  refine lv_aload_n hx hb d_P_init_13 rfl (lv_at hl 0 rfl) ?_
  refine lv_sipush (v := 200) hx hb d_P_init_14 (by decide) ?_
  refine va_newa (atype := .int) (ty := .int) (N' := 200) (a0 := (200, .inl (fun _ => 0))) hx hb (hts _ tb_51) rfl hK hP hD hS hA (fun _ => rfl) (by decide) (by decide) (by decide) (Nat.le_of_ble_eq_true rfl) (Nat.le_of_ble_eq_true rfl) d_P_init_17 (fun q17 c17 H hK hP hD hS => ?_)
  refine W.widen (k := 2) (n := 400) (by decide) (by decide) ?_
  have e17 : c8 = c17 := arr_eqI hK 0 1 rfl rfl
  subst e17
  have hK : va_K D cls_ [(c8, .int)] s := hK.sub [0] rfl
  have hP : va_P D cls_ [(h0, .inr (2, [.ref q8, .null, .null, .null, .null, .null, .int 0])), (q8, .inl (c8, 200, .inl (fun _ => 0))), (q17, .inl (c8, 200, .inl (fun _ => 0)))] H := hP
  have hD : va_D A [(h0, .inr (2, [.ref q8, .null, .null, .null, .null, .null, .int 0])), (q8, .inl (c8, 200, .inl (fun _ => 0))), (q17, .inl (c8, 200, .inl (fun _ => 0)))] := hD
  refine va_putF (D := D) (ci := 2) (v := .ref q17) (ty := .array .int) (C := R_P) (T := F_P) (N := 7) hx hb hts in_P t_P t_P_ok n_P hown hK hP hD hS 0 rfl rfl 1 (by decide) (hts _ tb_25) (fun _ h9 => h9) rfl hin rfl (by decide +kernel) rfl rfl (Nat.le_of_ble_eq_true rfl) d_P_init_19 (fun H locs hP hD hS => ?_)
  have hP : va_P D cls_ [(h0, .inr (2, [.ref q8, .ref q17, .null, .null, .null, .null, .int 0])), (q8, .inl (c8, 200, .inl (fun _ => 0))), (q17, .inl (c8, 200, .inl (fun _ => 0)))] H := hP
  have hD : va_D A [(h0, .inr (2, [.ref q8, .ref q17, .null, .null, .null, .null, .int 0])), (q8, .inl (c8, 200, .inl (fun _ => 0))), (q17, .inl (c8, 200, .inl (fun _ => 0)))] := hD
  refine lv_aload_n hx hb d_P_init_22 rfl (lv_at hl 0 rfl) ?_
  refine lv_sipush (v := 200) hx hb d_P_init_23 (by decide) ?_
  refine va_newa (atype := .int) (ty := .int) (N' := 200) (a0 := (200, .inl (fun _ => 0))) hx hb (hts _ tb_51) rfl hK hP hD hS hA (fun _ => rfl) (by decide) (by decide) (by decide) (Nat.le_of_ble_eq_true rfl) (Nat.le_of_ble_eq_true rfl) d_P_init_26 (fun q26 c26 H hK hP hD hS => ?_)
  refine W.widen (k := 3) (n := 600) (by decide) (by decide) ?_
  have e26 : c8 = c26 := arr_eqI hK 0 1 rfl rfl
  subst e26
  have hK : va_K D cls_ [(c8, .int)] s := hK.sub [0] rfl
  have hP : va_P D cls_ [(h0, .inr (2, [.ref q8, .ref q17, .null, .null, .null, .null, .int 0])), (q8, .inl (c8, 200, .inl (fun _ => 0))), (q17, .inl (c8, 200, .inl (fun _ => 0))), (q26, .inl (c8, 200, .inl (fun _ => 0)))] H := hP
  have hD : va_D A [(h0, .inr (2, [.ref q8, .ref q17, .null, .null, .null, .null, .int 0])), (q8, .inl (c8, 200, .inl (fun _ => 0))), (q17, .inl (c8, 200, .inl (fun _ => 0))), (q26, .inl (c8, 200, .inl (fun _ => 0)))] := hD
  refine va_putF (D := D) (ci := 2) (v := .ref q26) (ty := .array .int) (C := R_P) (T := F_P) (N := 7) hx hb hts in_P t_P t_P_ok n_P hown hK hP hD hS 0 rfl rfl 2 (by decide) (hts _ tb_26) (fun _ h9 => h9) rfl hin rfl (by decide +kernel) rfl rfl (Nat.le_of_ble_eq_true rfl) d_P_init_28 (fun H locs hP hD hS => ?_)
  have hP : va_P D cls_ [(h0, .inr (2, [.ref q8, .ref q17, .ref q26, .null, .null, .null, .int 0])), (q8, .inl (c8, 200, .inl (fun _ => 0))), (q17, .inl (c8, 200, .inl (fun _ => 0))), (q26, .inl (c8, 200, .inl (fun _ => 0)))] H := hP
  have hD : va_D A [(h0, .inr (2, [.ref q8, .ref q17, .ref q26, .null, .null, .null, .int 0])), (q8, .inl (c8, 200, .inl (fun _ => 0))), (q17, .inl (c8, 200, .inl (fun _ => 0))), (q26, .inl (c8, 200, .inl (fun _ => 0)))] := hD
  refine lv_aload_n hx hb d_P_init_31 rfl (lv_at hl 0 rfl) ?_
  refine lv_sipush (v := 200) hx hb d_P_init_32 (by decide) ?_
  refine va_newa (atype := .int) (ty := .int) (N' := 200) (a0 := (200, .inl (fun _ => 0))) hx hb (hts _ tb_51) rfl hK hP hD hS hA (fun _ => rfl) (by decide) (by decide) (by decide) (Nat.le_of_ble_eq_true rfl) (Nat.le_of_ble_eq_true rfl) d_P_init_35 (fun q35 c35 H hK hP hD hS => ?_)
  refine W.widen (k := 4) (n := 800) (by decide) (by decide) ?_
  have e35 : c8 = c35 := arr_eqI hK 0 1 rfl rfl
  subst e35
  have hK : va_K D cls_ [(c8, .int)] s := hK.sub [0] rfl
  have hP : va_P D cls_ [(h0, .inr (2, [.ref q8, .ref q17, .ref q26, .null, .null, .null, .int 0])), (q8, .inl (c8, 200, .inl (fun _ => 0))), (q17, .inl (c8, 200, .inl (fun _ => 0))), (q26, .inl (c8, 200, .inl (fun _ => 0))), (q35, .inl (c8, 200, .inl (fun _ => 0)))] H := hP
  have hD : va_D A [(h0, .inr (2, [.ref q8, .ref q17, .ref q26, .null, .null, .null, .int 0])), (q8, .inl (c8, 200, .inl (fun _ => 0))), (q17, .inl (c8, 200, .inl (fun _ => 0))), (q26, .inl (c8, 200, .inl (fun _ => 0))), (q35, .inl (c8, 200, .inl (fun _ => 0)))] := hD
  refine va_putF (D := D) (ci := 2) (v := .ref q35) (ty := .array .int) (C := R_P) (T := F_P) (N := 7) hx hb hts in_P t_P t_P_ok n_P hown hK hP hD hS 0 rfl rfl 3 (by decide) (hts _ tb_28) (fun _ h9 => h9) rfl hin rfl (by decide +kernel) rfl rfl (Nat.le_of_ble_eq_true rfl) d_P_init_37 (fun H locs hP hD hS => ?_)
  have hP : va_P D cls_ [(h0, .inr (2, [.ref q8, .ref q17, .ref q26, .ref q35, .null, .null, .int 0])), (q8, .inl (c8, 200, .inl (fun _ => 0))), (q17, .inl (c8, 200, .inl (fun _ => 0))), (q26, .inl (c8, 200, .inl (fun _ => 0))), (q35, .inl (c8, 200, .inl (fun _ => 0)))] H := hP
  have hD : va_D A [(h0, .inr (2, [.ref q8, .ref q17, .ref q26, .ref q35, .null, .null, .int 0])), (q8, .inl (c8, 200, .inl (fun _ => 0))), (q17, .inl (c8, 200, .inl (fun _ => 0))), (q26, .inl (c8, 200, .inl (fun _ => 0))), (q35, .inl (c8, 200, .inl (fun _ => 0)))] := hD
  refine lv_aload_n hx hb d_P_init_40 rfl (lv_at hl 0 rfl) ?_
  refine lv_sipush (v := 200) hx hb d_P_init_41 (by decide) ?_
  refine va_newa (atype := .boolean) (ty := .boolean) (N' := 200) (a0 := (200, .inl (fun _ => 0))) hx hb (hts _ tb_52) rfl hK hP hD hS hA (fun _ => rfl) (by decide) (by decide) (by decide) (Nat.le_of_ble_eq_true rfl) (Nat.le_of_ble_eq_true rfl) d_P_init_44 (fun q44 c44 H hK hP hD hS => ?_)
  refine W.widen (k := 5) (n := 1000) (by decide) (by decide) ?_
  have hK : va_K D cls_ [(c8, .int), (c44, .boolean)] s := hK
  have hP : va_P D cls_ [(h0, .inr (2, [.ref q8, .ref q17, .ref q26, .ref q35, .null, .null, .int 0])), (q8, .inl (c8, 200, .inl (fun _ => 0))), (q17, .inl (c8, 200, .inl (fun _ => 0))), (q26, .inl (c8, 200, .inl (fun _ => 0))), (q35, .inl (c8, 200, .inl (fun _ => 0))), (q44, .inl (c44, 200, .inl (fun _ => 0)))] H := hP
  have hD : va_D A [(h0, .inr (2, [.ref q8, .ref q17, .ref q26, .ref q35, .null, .null, .int 0])), (q8, .inl (c8, 200, .inl (fun _ => 0))), (q17, .inl (c8, 200, .inl (fun _ => 0))), (q26, .inl (c8, 200, .inl (fun _ => 0))), (q35, .inl (c8, 200, .inl (fun _ => 0))), (q44, .inl (c44, 200, .inl (fun _ => 0)))] := hD
  refine va_putF (D := D) (ci := 2) (v := .ref q44) (ty := .array .boolean) (C := R_P) (T := F_P) (N := 7) hx hb hts in_P t_P t_P_ok n_P hown hK hP hD hS 0 rfl rfl 4 (by decide) (hts _ tb_30) (fun _ h9 => h9) rfl hin rfl (by decide +kernel) rfl rfl (Nat.le_of_ble_eq_true rfl) d_P_init_46 (fun H locs hP hD hS => ?_)
  have hP : va_P D cls_ [(h0, .inr (2, [.ref q8, .ref q17, .ref q26, .ref q35, .ref q44, .null, .int 0])), (q8, .inl (c8, 200, .inl (fun _ => 0))), (q17, .inl (c8, 200, .inl (fun _ => 0))), (q26, .inl (c8, 200, .inl (fun _ => 0))), (q35, .inl (c8, 200, .inl (fun _ => 0))), (q44, .inl (c44, 200, .inl (fun _ => 0)))] H := hP
  have hD : va_D A [(h0, .inr (2, [.ref q8, .ref q17, .ref q26, .ref q35, .ref q44, .null, .int 0])), (q8, .inl (c8, 200, .inl (fun _ => 0))), (q17, .inl (c8, 200, .inl (fun _ => 0))), (q26, .inl (c8, 200, .inl (fun _ => 0))), (q35, .inl (c8, 200, .inl (fun _ => 0))), (q44, .inl (c44, 200, .inl (fun _ => 0)))] := hD
  refine lv_aload_n hx hb d_P_init_49 rfl (lv_at hl 0 rfl) ?_
  refine lv_sipush (v := 1600) hx hb d_P_init_50 (by decide) ?_
  refine va_newa (atype := .int) (ty := .int) (N' := 1600) (a0 := (1600, .inl (fun _ => 0))) hx hb (hts _ tb_51) rfl hK hP hD hS hA (fun _ => rfl) (by decide) (by decide) (by decide) (Nat.le_of_ble_eq_true rfl) (Nat.le_of_ble_eq_true rfl) d_P_init_53 (fun q53 c53 H hK hP hD hS => ?_)
  refine W.widen (k := 6) (n := 2600) (by decide) (by decide) ?_
  have e53 : c8 = c53 := arr_eqI hK 0 2 rfl rfl
  subst e53
  have hK : va_K D cls_ [(c8, .int), (c44, .boolean)] s := hK.sub [0, 1] rfl
  have hP : va_P D cls_ [(h0, .inr (2, [.ref q8, .ref q17, .ref q26, .ref q35, .ref q44, .null, .int 0])), (q8, .inl (c8, 200, .inl (fun _ => 0))), (q17, .inl (c8, 200, .inl (fun _ => 0))), (q26, .inl (c8, 200, .inl (fun _ => 0))), (q35, .inl (c8, 200, .inl (fun _ => 0))), (q44, .inl (c44, 200, .inl (fun _ => 0))), (q53, .inl (c8, 1600, .inl (fun _ => 0)))] H := hP
  have hD : va_D A [(h0, .inr (2, [.ref q8, .ref q17, .ref q26, .ref q35, .ref q44, .null, .int 0])), (q8, .inl (c8, 200, .inl (fun _ => 0))), (q17, .inl (c8, 200, .inl (fun _ => 0))), (q26, .inl (c8, 200, .inl (fun _ => 0))), (q35, .inl (c8, 200, .inl (fun _ => 0))), (q44, .inl (c44, 200, .inl (fun _ => 0))), (q53, .inl (c8, 1600, .inl (fun _ => 0)))] := hD
  refine va_putF (D := D) (ci := 2) (v := .ref q53) (ty := .array .int) (C := R_P) (T := F_P) (N := 7) hx hb hts in_P t_P t_P_ok n_P hown hK hP hD hS 0 rfl rfl 5 (by decide) (hts _ tb_32) (fun _ h9 => h9) rfl hin rfl (by decide +kernel) rfl rfl (Nat.le_of_ble_eq_true rfl) d_P_init_55 (fun H locs hP hD hS => ?_)
  have hP : va_P D cls_ [(h0, .inr (2, [.ref q8, .ref q17, .ref q26, .ref q35, .ref q44, .ref q53, .int 0])), (q8, .inl (c8, 200, .inl (fun _ => 0))), (q17, .inl (c8, 200, .inl (fun _ => 0))), (q26, .inl (c8, 200, .inl (fun _ => 0))), (q35, .inl (c8, 200, .inl (fun _ => 0))), (q44, .inl (c44, 200, .inl (fun _ => 0))), (q53, .inl (c8, 1600, .inl (fun _ => 0)))] H := hP
  have hD : va_D A [(h0, .inr (2, [.ref q8, .ref q17, .ref q26, .ref q35, .ref q44, .ref q53, .int 0])), (q8, .inl (c8, 200, .inl (fun _ => 0))), (q17, .inl (c8, 200, .inl (fun _ => 0))), (q26, .inl (c8, 200, .inl (fun _ => 0))), (q35, .inl (c8, 200, .inl (fun _ => 0))), (q44, .inl (c44, 200, .inl (fun _ => 0))), (q53, .inl (c8, 1600, .inl (fun _ => 0)))] := hD
  refine lv_aload_n hx hb d_P_init_58 rfl (lv_at hl 0 rfl) ?_
  refine lv_iconst (v := 0) hx hb d_P_init_59 (by decide) ?_
  refine va_put (D := D) (ci := 2) (v := .int 0) (ty := .int) (C := R_P) (T := F_P) (N := 7) hx hb hts in_P t_P t_P_ok n_P hown hK hP hD hS 0 rfl rfl 6 (by decide) (hts _ tb_34) (fun _ h9 => h9) rfl (by decide +kernel) rfl rfl (Nat.le_of_ble_eq_true rfl) d_P_init_60 (fun H locs hP hD hS => ?_)
  have hP : va_P D cls_ [(h0, .inr (2, [.ref q8, .ref q17, .ref q26, .ref q35, .ref q44, .ref q53, .int 0])), (q8, .inl (c8, 200, .inl (fun _ => 0))), (q17, .inl (c8, 200, .inl (fun _ => 0))), (q26, .inl (c8, 200, .inl (fun _ => 0))), (q35, .inl (c8, 200, .inl (fun _ => 0))), (q44, .inl (c44, 200, .inl (fun _ => 0))), (q53, .inl (c8, 1600, .inl (fun _ => 0)))] H := hP
  have hD : va_D A [(h0, .inr (2, [.ref q8, .ref q17, .ref q26, .ref q35, .ref q44, .ref q53, .int 0])), (q8, .inl (c8, 200, .inl (fun _ => 0))), (q17, .inl (c8, 200, .inl (fun _ => 0))), (q26, .inl (c8, 200, .inl (fun _ => 0))), (q35, .inl (c8, 200, .inl (fun _ => 0))), (q44, .inl (c44, 200, .inl (fun _ => 0))), (q53, .inl (c8, 1600, .inl (fun _ => 0)))] := hD
  have hP9 := hP.sub (ws' := [(h0, .inr (2, [.ref q8, .ref q17, .ref q26, .ref q35, .ref q44, .ref q53, .int 0])), (q8, .inl (c8, 200, .inl (fun _ => 0))), (q17, .inl (c8, 200, .inl (fun _ => 0))), (q26, .inl (c8, 200, .inl (fun _ => 0))), (q35, .inl (c8, 200, .inl (fun _ => 0))), (q44, .inl (c44, 200, .inl (fun _ => 0))), (q53, .inl (c8, 1600, .inl (fun _ => 0)))]) [0, 1, 2, 3, 4, 5, 6] rfl
  have hD9 := hD.sub (ws' := [(h0, .inr (2, [.ref q8, .ref q17, .ref q26, .ref q35, .ref q44, .ref q53, .int 0])), (q8, .inl (c8, 200, .inl (fun _ => 0))), (q17, .inl (c8, 200, .inl (fun _ => 0))), (q26, .inl (c8, 200, .inl (fun _ => 0))), (q35, .inl (c8, 200, .inl (fun _ => 0))), (q44, .inl (c44, 200, .inl (fun _ => 0))), (q53, .inl (c8, 1600, .inl (fun _ => 0)))]) [0, 1, 2, 3, 4, 5, 6] (by decide) rfl
  have hK9 : va_K D cls_ (ty_ c8 c44) s := hK.sub [0, 1] rfl
  exact W.vret hx hb hr (fun t ht hW => ⟨⟨((fun k : Nat => match k with | 0 => q8 | 1 => q17 | 2 => q26 | 3 => q35 | 4 => q44 | _ => q53), c8, c44), rfl, trivial, by rw [ht]; exact hP9, va_K.moved hW.alike hK9, hD9⟩, hS.F ht⟩) hS.2.2 d_P_init_63
abbrev rm_R_init : Room := { frames := 1, cells := 8, slots := 1424, locals := 12 }
theorem good_R_init : GoodIn TB (.code y_R_init b_R_init 1 none :: TB) := good_of tb_57
theorem hd_R_init : y_R_init.cls ≠ "java/lang/invoke/MethodHandle" ∧ y_R_init.cls ≠ "java/lang/invoke/VarHandle" ∧ (parseMethodDescriptor y_R_init.desc).map (fun d => d.parameters.length) = some 0 := by decide +kernel
theorem d_R_init_0 : decode b_R_init 0 = .ok (.aload_n 0, 1) := by decide +kernel
theorem d_R_init_1 : decode b_R_init 1 = .ok (.invokespecial 3, 3) := by decide +kernel
theorem d_R_init_4 : decode b_R_init 4 = .ok (.aload_n 0, 1) := by decide +kernel
theorem d_R_init_5 : decode b_R_init 5 = .ok (.sipush 200, 3) := by decide +kernel
theorem d_R_init_8 : decode b_R_init 8 = .ok (.newarray .int, 2) := by decide +kernel
theorem d_R_init_10 : decode b_R_init 10 = .ok (.putfield 9, 3) := by decide +kernel
theorem d_R_init_13 : decode b_R_init 13 = .ok (.aload_n 0, 1) := by decide +kernel
theorem d_R_init_14 : decode b_R_init 14 = .ok (.sipush 200, 3) := by decide +kernel
theorem d_R_init_17 : decode b_R_init 17 = .ok (.newarray .int, 2) := by decide +kernel
theorem d_R_init_19 : decode b_R_init 19 = .ok (.putfield 15, 3) := by decide +kernel
theorem d_R_init_22 : decode b_R_init 22 = .ok (.aload_n 0, 1) := by decide +kernel
theorem d_R_init_23 : decode b_R_init 23 = .ok (.sipush 200, 3) := by decide +kernel
theorem d_R_init_26 : decode b_R_init 26 = .ok (.newarray .int, 2) := by decide +kernel
theorem d_R_init_28 : decode b_R_init 28 = .ok (.putfield 18, 3) := by decide +kernel
theorem d_R_init_31 : decode b_R_init 31 = .ok (.aload_n 0, 1) := by decide +kernel
theorem d_R_init_32 : decode b_R_init 32 = .ok (.sipush 200, 3) := by decide +kernel
theorem d_R_init_35 : decode b_R_init 35 = .ok (.newarray .int, 2) := by decide +kernel
theorem d_R_init_37 : decode b_R_init 37 = .ok (.putfield 21, 3) := by decide +kernel
theorem d_R_init_40 : decode b_R_init 40 = .ok (.aload_n 0, 1) := by decide +kernel
theorem d_R_init_41 : decode b_R_init 41 = .ok (.sipush 200, 3) := by decide +kernel
theorem d_R_init_44 : decode b_R_init 44 = .ok (.newarray .int, 2) := by decide +kernel
theorem d_R_init_46 : decode b_R_init 46 = .ok (.putfield 24, 3) := by decide +kernel
theorem d_R_init_49 : decode b_R_init 49 = .ok (.aload_n 0, 1) := by decide +kernel
theorem d_R_init_50 : decode b_R_init 50 = .ok (.sipush 200, 3) := by decide +kernel
theorem d_R_init_53 : decode b_R_init 53 = .ok (.newarray .int, 2) := by decide +kernel
theorem d_R_init_55 : decode b_R_init 55 = .ok (.putfield 27, 3) := by decide +kernel
theorem d_R_init_58 : decode b_R_init 58 = .ok (.aload_n 0, 1) := by decide +kernel
theorem d_R_init_59 : decode b_R_init 59 = .ok (.sipush 200, 3) := by decide +kernel
theorem d_R_init_62 : decode b_R_init 62 = .ok (.newarray .boolean, 2) := by decide +kernel
theorem d_R_init_64 : decode b_R_init 64 = .ok (.putfield 30, 3) := by decide +kernel
theorem d_R_init_67 : decode b_R_init 67 = .ok (.aload_n 0, 1) := by decide +kernel
theorem d_R_init_68 : decode b_R_init 68 = .ok (.bipush 24, 2) := by decide +kernel
theorem d_R_init_70 : decode b_R_init 70 = .ok (.newarray .int, 2) := by decide +kernel
theorem d_R_init_72 : decode b_R_init 72 = .ok (.putfield 34, 3) := by decide +kernel
theorem d_R_init_75 : decode b_R_init 75 = .ok (.aload_n 0, 1) := by decide +kernel
theorem d_R_init_76 : decode b_R_init 76 = .ok (.iconst 0, 1) := by decide +kernel
theorem d_R_init_77 : decode b_R_init 77 = .ok (.putfield 37, 3) := by decide +kernel
theorem d_R_init_80 : decode b_R_init 80 = .ok (.return_, 1) := by decide +kernel
set_option maxHeartbeats 4000000 in
set_option maxRecDepth 100000 in
theorem c_R_init (l : Launch) (D : va_G) (h0 sz : Nat) : Met l y_R_init (.code y_R_init b_R_init 1 none :: TB) rm_R_init (va_Pc [.ref h0] (fun U => U.heap.size = sz ∧ va_P D cls_ [(h0, .inr (3, [.null, .null, .null, .null, .null, .null, .null, .null, .int 0]))] U.heap ∧ va_K D cls_ [] U ∧ va_D (fun _ => True) [(h0, .inr (3, [.null, .null, .null, .null, .null, .null, .null, .null, .int 0]))] ∧ NW U)) (va_Qv (fun u : (Nat → Nat) × ClassId × ClassId => True) (fun u t => va_P D cls_ ([(h0, .inr (3, [.ref (u.1 0), .ref (u.1 1), .ref (u.1 2), .ref (u.1 3), .ref (u.1 4), .ref (u.1 5), .ref (u.1 6), .ref (u.1 7), .int 0])), ((u.1 0), .inl (u.2.1, 200, .inl (fun _ => 0))), ((u.1 1), .inl (u.2.1, 200, .inl (fun _ => 0))), ((u.1 2), .inl (u.2.1, 200, .inl (fun _ => 0))), ((u.1 3), .inl (u.2.1, 200, .inl (fun _ => 0))), ((u.1 4), .inl (u.2.1, 200, .inl (fun _ => 0))), ((u.1 5), .inl (u.2.1, 200, .inl (fun _ => 0))), ((u.1 6), .inl (u.2.2, 200, .inl (fun _ => 0))), ((u.1 7), .inl (u.2.1, 24, .inl (fun _ => 0)))]) t.heap ∧ va_K D cls_ (ty_ u.2.1 u.2.2) t ∧ va_D (va_A [(h0, .inr (3, [.null, .null, .null, .null, .null, .null, .null, .null, .int 0]))] sz) ([(h0, .inr (3, [.ref (u.1 0), .ref (u.1 1), .ref (u.1 2), .ref (u.1 3), .ref (u.1 4), .ref (u.1 5), .ref (u.1 6), .ref (u.1 7), .int 0])), ((u.1 0), .inl (u.2.1, 200, .inl (fun _ => 0))), ((u.1 1), .inl (u.2.1, 200, .inl (fun _ => 0))), ((u.1 2), .inl (u.2.1, 200, .inl (fun _ => 0))), ((u.1 3), .inl (u.2.1, 200, .inl (fun _ => 0))), ((u.1 4), .inl (u.2.1, 200, .inl (fun _ => 0))), ((u.1 5), .inl (u.2.1, 200, .inl (fun _ => 0))), ((u.1 6), .inl (u.2.2, 200, .inl (fun _ => 0))), ((u.1 7), .inl (u.2.1, 24, .inl (fun _ => 0)))])) (va_A [(h0, .inr (3, [.null, .null, .null, .null, .null, .null, .null, .null, .int 0]))] sz)) 8 1424 (va_A [(h0, .inr (3, [.null, .null, .null, .null, .null, .null, .null, .null, .int 0]))] sz) := by
  refine Met.ofW (cc := b_R_init) (maxL := 1) (ret := none) (by decide +kernel) rfl ?_
  intro p e s m args below meth c s₁ B hml hv
  obtain ⟨rfl, hsz, hP, hK, hD0, hN⟩ := hv
  have hx := B.exec
  have hb := B.bytes
  have hr := B.returns
  have hts0 := atoms_spec (ws := Cond.code y_R_init b_R_init 1 none :: TB) B.pre
  have hts : ∀ w ∈ TB, w.before _ s = true := fun w h => hts0 w (List.mem_cons_of_mem _ h)
  have hown : s.vm.findClass R_R = some m.cls := findClass_of_methodNamed B.named
  have hlocks := B.notSynchronized
  have hin : meth.name = "<init>" := (name_of_methodNamed B.named B.method).1
  subst hsz
  have hD := hD0.self (sz := s.heap.size)
  generalize hAe : va_A [(h0, .inr (3, [.null, .null, .null, .null, .null, .null, .null, .null, .int 0]))] s.heap.size = A at hD ⊢
  have hA : ∀ q : Nat, s.heap.size ≤ q → A q := fun q h => by rw [← hAe]; exact Or.inr h
  have hS : va_S A s.heap s.heap [] := va_S.rf
  have hl := lv_entry ([.ref h0]) (n := 1) (Nat.le_of_ble_eq_true rfl)
  rw [lg_entry_eq]
  generalize (lg_sl ([.ref h0]) ++ List.replicate (1 - (lg_sl ([.ref h0])).length) Slot.unset).toArray = ls at hl ⊢
  have hl : lv_has ls 1 [(0, .ref h0)] := hl
  refine lv_aload_n hx hb d_R_init_0 rfl (lv_at hl 0 rfl) ?_
  refine W.objInit hx hb hown (hts _ tb_58) (hts _ tb_15) (hts _ tb_16) rfl (by rw [hml]; exact hl.1) rfl d_R_init_1 (Nat.le_of_ble_eq_true rfl) (Nat.le_of_ble_eq_true rfl) ?_
  refine W.eq (g2 := F0 m 4 ls []) rfl ?_
  refine lv_aload_n hx hb d_R_init_4 rfl (lv_at hl 0 rfl) ?_
  refine lv_sipush (v := 200) hx hb d_R_init_5 (by decide) ?_
  refine va_newa (atype := .int) (ty := .int) (N' := 200) (a0 := (200, .inl (fun _ => 0))) hx hb (hts _ tb_51) rfl hK hP hD hS hA (fun _ => rfl) (by decide) (by decide) (by decide) (Nat.le_of_ble_eq_true rfl) (Nat.le_of_ble_eq_true rfl) d_R_init_8 (fun q8 c8 H hK hP hD hS => ?_)
  refine W.widen (k := 1) (n := 200) (by decide) (by decide) ?_
  have hK : va_K D cls_ [(c8, .int)] s := hK
  have hP : va_P D cls_ [(h0, .inr (3, [.null, .null, .null, .null, .null, .null, .null, .null, .int 0])), (q8, .inl (c8, 200, .inl (fun _ => 0)))] H := hP
  have hD : va_D A [(h0, .inr (3, [.null, .null, .null, .null, .null, .null, .null, .null, .int 0])), (q8, .inl (c8, 200, .inl (fun _ => 0)))] := hD
  refine va_putF (D := D) (ci := 3) (v := .ref q8) (ty := .array .int) (C := R_R) (T := F_R) (N := 9) hx hb hts in_R t_R t_R_ok n_R hown hK hP hD hS 0 rfl rfl 0 (by decide) (hts _ tb_59) (fun _ h9 => h9) rfl hin rfl (by decide +kernel) rfl rfl (Nat.le_of_ble_eq_true rfl) d_R_init_10 (fun H locs hP hD hS => ?_)
  have hP : va_P D cls_ [(h0, .inr (3, [.ref q8, .null, .null, .null, .null, .null, .null, .null, .int 0])), (q8, .inl (c8, 200, .inl (fun _ => 0)))] H := hP
  have hD : va_D A [(h0, .inr (3, [.ref q8, .null, .null, .null, .null, .null, .null, .null, .int 0])), (q8, .inl (c8, 200, .inl (fun _ => 0)))] := hD
  refine lv_aload_n hx hb d_R_init_13 rfl (lv_at hl 0 rfl) ?_
  refine lv_sipush (v := 200) hx hb d_R_init_14 (by decide) ?_
  refine va_newa (atype := .int) (ty := .int) (N' := 200) (a0 := (200, .inl (fun _ => 0))) hx hb (hts _ tb_51) rfl hK hP hD hS hA (fun _ => rfl) (by decide) (by decide) (by decide) (Nat.le_of_ble_eq_true rfl) (Nat.le_of_ble_eq_true rfl) d_R_init_17 (fun q17 c17 H hK hP hD hS => ?_)
  refine W.widen (k := 2) (n := 400) (by decide) (by decide) ?_
  have e17 : c8 = c17 := arr_eqI hK 0 1 rfl rfl
  subst e17
  have hK : va_K D cls_ [(c8, .int)] s := hK.sub [0] rfl
  have hP : va_P D cls_ [(h0, .inr (3, [.ref q8, .null, .null, .null, .null, .null, .null, .null, .int 0])), (q8, .inl (c8, 200, .inl (fun _ => 0))), (q17, .inl (c8, 200, .inl (fun _ => 0)))] H := hP
  have hD : va_D A [(h0, .inr (3, [.ref q8, .null, .null, .null, .null, .null, .null, .null, .int 0])), (q8, .inl (c8, 200, .inl (fun _ => 0))), (q17, .inl (c8, 200, .inl (fun _ => 0)))] := hD
  refine va_putF (D := D) (ci := 3) (v := .ref q17) (ty := .array .int) (C := R_R) (T := F_R) (N := 9) hx hb hts in_R t_R t_R_ok n_R hown hK hP hD hS 0 rfl rfl 1 (by decide) (hts _ tb_61) (fun _ h9 => h9) rfl hin rfl (by decide +kernel) rfl rfl (Nat.le_of_ble_eq_true rfl) d_R_init_19 (fun H locs hP hD hS => ?_)
  have hP : va_P D cls_ [(h0, .inr (3, [.ref q8, .ref q17, .null, .null, .null, .null, .null, .null, .int 0])), (q8, .inl (c8, 200, .inl (fun _ => 0))), (q17, .inl (c8, 200, .inl (fun _ => 0)))] H := hP
  have hD : va_D A [(h0, .inr (3, [.ref q8, .ref q17, .null, .null, .null, .null, .null, .null, .int 0])), (q8, .inl (c8, 200, .inl (fun _ => 0))), (q17, .inl (c8, 200, .inl (fun _ => 0)))] := hD
  refine lv_aload_n hx hb d_R_init_22 rfl (lv_at hl 0 rfl) ?_
  refine lv_sipush (v := 200) hx hb d_R_init_23 (by decide) ?_
  refine va_newa (atype := .int) (ty := .int) (N' := 200) (a0 := (200, .inl (fun _ => 0))) hx hb (hts _ tb_51) rfl hK hP hD hS hA (fun _ => rfl) (by decide) (by decide) (by decide) (Nat.le_of_ble_eq_true rfl) (Nat.le_of_ble_eq_true rfl) d_R_init_26 (fun q26 c26 H hK hP hD hS => ?_)
  refine W.widen (k := 3) (n := 600) (by decide) (by decide) ?_
  have e26 : c8 = c26 := arr_eqI hK 0 1 rfl rfl
  subst e26
  have hK : va_K D cls_ [(c8, .int)] s := hK.sub [0] rfl
  have hP : va_P D cls_ [(h0, .inr (3, [.ref q8, .ref q17, .null, .null, .null, .null, .null, .null, .int 0])), (q8, .inl (c8, 200, .inl (fun _ => 0))), (q17, .inl (c8, 200, .inl (fun _ => 0))), (q26, .inl (c8, 200, .inl (fun _ => 0)))] H := hP
  have hD : va_D A [(h0, .inr (3, [.ref q8, .ref q17, .null, .null, .null, .null, .null, .null, .int 0])), (q8, .inl (c8, 200, .inl (fun _ => 0))), (q17, .inl (c8, 200, .inl (fun _ => 0))), (q26, .inl (c8, 200, .inl (fun _ => 0)))] := hD
  refine va_putF (D := D) (ci := 3) (v := .ref q26) (ty := .array .int) (C := R_R) (T := F_R) (N := 9) hx hb hts in_R t_R t_R_ok n_R hown hK hP hD hS 0 rfl rfl 2 (by decide) (hts _ tb_63) (fun _ h9 => h9) rfl hin rfl (by decide +kernel) rfl rfl (Nat.le_of_ble_eq_true rfl) d_R_init_28 (fun H locs hP hD hS => ?_)
  have hP : va_P D cls_ [(h0, .inr (3, [.ref q8, .ref q17, .ref q26, .null, .null, .null, .null, .null, .int 0])), (q8, .inl (c8, 200, .inl (fun _ => 0))), (q17, .inl (c8, 200, .inl (fun _ => 0))), (q26, .inl (c8, 200, .inl (fun _ => 0)))] H := hP
  have hD : va_D A [(h0, .inr (3, [.ref q8, .ref q17, .ref q26, .null, .null, .null, .null, .null, .int 0])), (q8, .inl (c8, 200, .inl (fun _ => 0))), (q17, .inl (c8, 200, .inl (fun _ => 0))), (q26, .inl (c8, 200, .inl (fun _ => 0)))] := hD
  refine lv_aload_n hx hb d_R_init_31 rfl (lv_at hl 0 rfl) ?_
  refine lv_sipush (v := 200) hx hb d_R_init_32 (by decide) ?_
  refine va_newa (atype := .int) (ty := .int) (N' := 200) (a0 := (200, .inl (fun _ => 0))) hx hb (hts _ tb_51) rfl hK hP hD hS hA (fun _ => rfl) (by decide) (by decide) (by decide) (Nat.le_of_ble_eq_true rfl) (Nat.le_of_ble_eq_true rfl) d_R_init_35 (fun q35 c35 H hK hP hD hS => ?_)
  refine W.widen (k := 4) (n := 800) (by decide) (by decide) ?_
  have e35 : c8 = c35 := arr_eqI hK 0 1 rfl rfl
  subst e35
  have hK : va_K D cls_ [(c8, .int)] s := hK.sub [0] rfl
  have hP : va_P D cls_ [(h0, .inr (3, [.ref q8, .ref q17, .ref q26, .null, .null, .null, .null, .null, .int 0])), (q8, .inl (c8, 200, .inl (fun _ => 0))), (q17, .inl (c8, 200, .inl (fun _ => 0))), (q26, .inl (c8, 200, .inl (fun _ => 0))), (q35, .inl (c8, 200, .inl (fun _ => 0)))] H := hP
  have hD : va_D A [(h0, .inr (3, [.ref q8, .ref q17, .ref q26, .null, .null, .null, .null, .null, .int 0])), (q8, .inl (c8, 200, .inl (fun _ => 0))), (q17, .inl (c8, 200, .inl (fun _ => 0))), (q26, .inl (c8, 200, .inl (fun _ => 0))), (q35, .inl (c8, 200, .inl (fun _ => 0)))] := hD
  refine va_putF (D := D) (ci := 3) (v := .ref q35) (ty := .array .int) (C := R_R) (T := F_R) (N := 9) hx hb hts in_R t_R t_R_ok n_R hown hK hP hD hS 0 rfl rfl 3 (by decide) (hts _ tb_65) (fun _ h9 => h9) rfl hin rfl (by decide +kernel) rfl rfl (Nat.le_of_ble_eq_true rfl) d_R_init_37 (fun H locs hP hD hS => ?_)
  have hP : va_P D cls_ [(h0, .inr (3, [.ref q8, .ref q17, .ref q26, .ref q35, .null, .null, .null, .null, .int 0])), (q8, .inl (c8, 200, .inl (fun _ => 0))), (q17, .inl (c8, 200, .inl (fun _ => 0))), (q26, .inl (c8, 200, .inl (fun _ => 0))), (q35, .inl (c8, 200, .inl (fun _ => 0)))] H := hP
  have hD : va_D A [(h0, .inr (3, [.ref q8, .ref q17, .ref q26, .ref q35, .null, .null, .null, .null, .int 0])), (q8, .inl (c8, 200, .inl (fun _ => 0))), (q17, .inl (c8, 200, .inl (fun _ => 0))), (q26, .inl (c8, 200, .inl (fun _ => 0))), (q35, .inl (c8, 200, .inl (fun _ => 0)))] := hD
  refine lv_aload_n hx hb d_R_init_40 rfl (lv_at hl 0 rfl) ?_
  refine lv_sipush (v := 200) hx hb d_R_init_41 (by decide) ?_
  refine va_newa (atype := .int) (ty := .int) (N' := 200) (a0 := (200, .inl (fun _ => 0))) hx hb (hts _ tb_51) rfl hK hP hD hS hA (fun _ => rfl) (by decide) (by decide) (by decide) (Nat.le_of_ble_eq_true rfl) (Nat.le_of_ble_eq_true rfl) d_R_init_44 (fun q44 c44 H hK hP hD hS => ?_)
  refine W.widen (k := 5) (n := 1000) (by decide) (by decide) ?_
  have e44 : c8 = c44 := arr_eqI hK 0 1 rfl rfl
  subst e44
  have hK : va_K D cls_ [(c8, .int)] s := hK.sub [0] rfl
  have hP : va_P D cls_ [(h0, .inr (3, [.ref q8, .ref q17, .ref q26, .ref q35, .null, .null, .null, .null, .int 0])), (q8, .inl (c8, 200, .inl (fun _ => 0))), (q17, .inl (c8, 200, .inl (fun _ => 0))), (q26, .inl (c8, 200, .inl (fun _ => 0))), (q35, .inl (c8, 200, .inl (fun _ => 0))), (q44, .inl (c8, 200, .inl (fun _ => 0)))] H := hP
  have hD : va_D A [(h0, .inr (3, [.ref q8, .ref q17, .ref q26, .ref q35, .null, .null, .null, .null, .int 0])), (q8, .inl (c8, 200, .inl (fun _ => 0))), (q17, .inl (c8, 200, .inl (fun _ => 0))), (q26, .inl (c8, 200, .inl (fun _ => 0))), (q35, .inl (c8, 200, .inl (fun _ => 0))), (q44, .inl (c8, 200, .inl (fun _ => 0)))] := hD
  refine va_putF (D := D) (ci := 3) (v := .ref q44) (ty := .array .int) (C := R_R) (T := F_R) (N := 9) hx hb hts in_R t_R t_R_ok n_R hown hK hP hD hS 0 rfl rfl 4 (by decide) (hts _ tb_67) (fun _ h9 => h9) rfl hin rfl (by decide +kernel) rfl rfl (Nat.le_of_ble_eq_true rfl) d_R_init_46 (fun H locs hP hD hS => ?_)
  have hP : va_P D cls_ [(h0, .inr (3, [.ref q8, .ref q17, .ref q26, .ref q35, .ref q44, .null, .null, .null, .int 0])), (q8, .inl (c8, 200, .inl (fun _ => 0))), (q17, .inl (c8, 200, .inl (fun _ => 0))), (q26, .inl (c8, 200, .inl (fun _ => 0))), (q35, .inl (c8, 200, .inl (fun _ => 0))), (q44, .inl (c8, 200, .inl (fun _ => 0)))] H := hP
  have hD : va_D A [(h0, .inr (3, [.ref q8, .ref q17, .ref q26, .ref q35, .ref q44, .null, .null, .null, .int 0])), (q8, .inl (c8, 200, .inl (fun _ => 0))), (q17, .inl (c8, 200, .inl (fun _ => 0))), (q26, .inl (c8, 200, .inl (fun _ => 0))), (q35, .inl (c8, 200, .inl (fun _ => 0))), (q44, .inl (c8, 200, .inl (fun _ => 0)))] := hD
  refine lv_aload_n hx hb d_R_init_49 rfl (lv_at hl 0 rfl) ?_
  refine lv_sipush (v := 200) hx hb d_R_init_50 (by decide) ?_
  refine va_newa (atype := .int) (ty := .int) (N' := 200) (a0 := (200, .inl (fun _ => 0))) hx hb (hts _ tb_51) rfl hK hP hD hS hA (fun _ => rfl) (by decide) (by decide) (by decide) (Nat.le_of_ble_eq_true rfl) (Nat.le_of_ble_eq_true rfl) d_R_init_53 (fun q53 c53 H hK hP hD hS => ?_)
  refine W.widen (k := 6) (n := 1200) (by decide) (by decide) ?_
  have e53 : c8 = c53 := arr_eqI hK 0 1 rfl rfl
  subst e53
  have hK : va_K D cls_ [(c8, .int)] s := hK.sub [0] rfl
  have hP : va_P D cls_ [(h0, .inr (3, [.ref q8, .ref q17, .ref q26, .ref q35, .ref q44, .null, .null, .null, .int 0])), (q8, .inl (c8, 200, .inl (fun _ => 0))), (q17, .inl (c8, 200, .inl (fun _ => 0))), (q26, .inl (c8, 200, .inl (fun _ => 0))), (q35, .inl (c8, 200, .inl (fun _ => 0))), (q44, .inl (c8, 200, .inl (fun _ => 0))), (q53, .inl (c8, 200, .inl (fun _ => 0)))] H := hP
  have hD : va_D A [(h0, .inr (3, [.ref q8, .ref q17, .ref q26, .ref q35, .ref q44, .null, .null, .null, .int 0])), (q8, .inl (c8, 200, .inl (fun _ => 0))), (q17, .inl (c8, 200, .inl (fun _ => 0))), (q26, .inl (c8, 200, .inl (fun _ => 0))), (q35, .inl (c8, 200, .inl (fun _ => 0))), (q44, .inl (c8, 200, .inl (fun _ => 0))), (q53, .inl (c8, 200, .inl (fun _ => 0)))] := hD
  refine va_putF (D := D) (ci := 3) (v := .ref q53) (ty := .array .int) (C := R_R) (T := F_R) (N := 9) hx hb hts in_R t_R t_R_ok n_R hown hK hP hD hS 0 rfl rfl 5 (by decide) (hts _ tb_69) (fun _ h9 => h9) rfl hin rfl (by decide +kernel) rfl rfl (Nat.le_of_ble_eq_true rfl) d_R_init_55 (fun H locs hP hD hS => ?_)
  have hP : va_P D cls_ [(h0, .inr (3, [.ref q8, .ref q17, .ref q26, .ref q35, .ref q44, .ref q53, .null, .null, .int 0])), (q8, .inl (c8, 200, .inl (fun _ => 0))), (q17, .inl (c8, 200, .inl (fun _ => 0))), (q26, .inl (c8, 200, .inl (fun _ => 0))), (q35, .inl (c8, 200, .inl (fun _ => 0))), (q44, .inl (c8, 200, .inl (fun _ => 0))), (q53, .inl (c8, 200, .inl (fun _ => 0)))] H := hP
  have hD : va_D A [(h0, .inr (3, [.ref q8, .ref q17, .ref q26, .ref q35, .ref q44, .ref q53, .null, .null, .int 0])), (q8, .inl (c8, 200, .inl (fun _ => 0))), (q17, .inl (c8, 200, .inl (fun _ => 0))), (q26, .inl (c8, 200, .inl (fun _ => 0))), (q35, .inl (c8, 200, .inl (fun _ => 0))), (q44, .inl (c8, 200, .inl (fun _ => 0))), (q53, .inl (c8, 200, .inl (fun _ => 0)))] := hD
  refine lv_aload_n hx hb d_R_init_58 rfl (lv_at hl 0 rfl) ?_
  refine lv_sipush (v := 200) hx hb d_R_init_59 (by decide) ?_
  refine va_newa (atype := .boolean) (ty := .boolean) (N' := 200) (a0 := (200, .inl (fun _ => 0))) hx hb (hts _ tb_52) rfl hK hP hD hS hA (fun _ => rfl) (by decide) (by decide) (by decide) (Nat.le_of_ble_eq_true rfl) (Nat.le_of_ble_eq_true rfl) d_R_init_62 (fun q62 c62 H hK hP hD hS => ?_)
  refine W.widen (k := 7) (n := 1400) (by decide) (by decide) ?_
  have hK : va_K D cls_ [(c8, .int), (c62, .boolean)] s := hK
  have hP : va_P D cls_ [(h0, .inr (3, [.ref q8, .ref q17, .ref q26, .ref q35, .ref q44, .ref q53, .null, .null, .int 0])), (q8, .inl (c8, 200, .inl (fun _ => 0))), (q17, .inl (c8, 200, .inl (fun _ => 0))), (q26, .inl (c8, 200, .inl (fun _ => 0))), (q35, .inl (c8, 200, .inl (fun _ => 0))), (q44, .inl (c8, 200, .inl (fun _ => 0))), (q53, .inl (c8, 200, .inl (fun _ => 0))), (q62, .inl (c62, 200, .inl (fun _ => 0)))] H := hP
  have hD : va_D A [(h0, .inr (3, [.ref q8, .ref q17, .ref q26, .ref q35, .ref q44, .ref q53, .null, .null, .int 0])), (q8, .inl (c8, 200, .inl (fun _ => 0))), (q17, .inl (c8, 200, .inl (fun _ => 0))), (q26, .inl (c8, 200, .inl (fun _ => 0))), (q35, .inl (c8, 200, .inl (fun _ => 0))), (q44, .inl (c8, 200, .inl (fun _ => 0))), (q53, .inl (c8, 200, .inl (fun _ => 0))), (q62, .inl (c62, 200, .inl (fun _ => 0)))] := hD
  refine va_putF (D := D) (ci := 3) (v := .ref q62) (ty := .array .boolean) (C := R_R) (T := F_R) (N := 9) hx hb hts in_R t_R t_R_ok n_R hown hK hP hD hS 0 rfl rfl 6 (by decide) (hts _ tb_71) (fun _ h9 => h9) rfl hin rfl (by decide +kernel) rfl rfl (Nat.le_of_ble_eq_true rfl) d_R_init_64 (fun H locs hP hD hS => ?_)
  have hP : va_P D cls_ [(h0, .inr (3, [.ref q8, .ref q17, .ref q26, .ref q35, .ref q44, .ref q53, .ref q62, .null, .int 0])), (q8, .inl (c8, 200, .inl (fun _ => 0))), (q17, .inl (c8, 200, .inl (fun _ => 0))), (q26, .inl (c8, 200, .inl (fun _ => 0))), (q35, .inl (c8, 200, .inl (fun _ => 0))), (q44, .inl (c8, 200, .inl (fun _ => 0))), (q53, .inl (c8, 200, .inl (fun _ => 0))), (q62, .inl (c62, 200, .inl (fun _ => 0)))] H := hP
  have hD : va_D A [(h0, .inr (3, [.ref q8, .ref q17, .ref q26, .ref q35, .ref q44, .ref q53, .ref q62, .null, .int 0])), (q8, .inl (c8, 200, .inl (fun _ => 0))), (q17, .inl (c8, 200, .inl (fun _ => 0))), (q26, .inl (c8, 200, .inl (fun _ => 0))), (q35, .inl (c8, 200, .inl (fun _ => 0))), (q44, .inl (c8, 200, .inl (fun _ => 0))), (q53, .inl (c8, 200, .inl (fun _ => 0))), (q62, .inl (c62, 200, .inl (fun _ => 0)))] := hD
  refine lv_aload_n hx hb d_R_init_67 rfl (lv_at hl 0 rfl) ?_
  refine lv_bipush (v := 24) hx hb d_R_init_68 (by decide) ?_
  refine va_newa (atype := .int) (ty := .int) (N' := 24) (a0 := (24, .inl (fun _ => 0))) hx hb (hts _ tb_51) rfl hK hP hD hS hA (fun _ => rfl) (by decide) (by decide) (by decide) (Nat.le_of_ble_eq_true rfl) (Nat.le_of_ble_eq_true rfl) d_R_init_70 (fun q70 c70 H hK hP hD hS => ?_)
  refine W.widen (k := 8) (n := 1424) (by decide) (by decide) ?_
  have e70 : c8 = c70 := arr_eqI hK 0 2 rfl rfl
  subst e70
  have hK : va_K D cls_ [(c8, .int), (c62, .boolean)] s := hK.sub [0, 1] rfl
  have hP : va_P D cls_ [(h0, .inr (3, [.ref q8, .ref q17, .ref q26, .ref q35, .ref q44, .ref q53, .ref q62, .null, .int 0])), (q8, .inl (c8, 200, .inl (fun _ => 0))), (q17, .inl (c8, 200, .inl (fun _ => 0))), (q26, .inl (c8, 200, .inl (fun _ => 0))), (q35, .inl (c8, 200, .inl (fun _ => 0))), (q44, .inl (c8, 200, .inl (fun _ => 0))), (q53, .inl (c8, 200, .inl (fun _ => 0))), (q62, .inl (c62, 200, .inl (fun _ => 0))), (q70, .inl (c8, 24, .inl (fun _ => 0)))] H := hP
  have hD : va_D A [(h0, .inr (3, [.ref q8, .ref q17, .ref q26, .ref q35, .ref q44, .ref q53, .ref q62, .null, .int 0])), (q8, .inl (c8, 200, .inl (fun _ => 0))), (q17, .inl (c8, 200, .inl (fun _ => 0))), (q26, .inl (c8, 200, .inl (fun _ => 0))), (q35, .inl (c8, 200, .inl (fun _ => 0))), (q44, .inl (c8, 200, .inl (fun _ => 0))), (q53, .inl (c8, 200, .inl (fun _ => 0))), (q62, .inl (c62, 200, .inl (fun _ => 0))), (q70, .inl (c8, 24, .inl (fun _ => 0)))] := hD
  refine va_putF (D := D) (ci := 3) (v := .ref q70) (ty := .array .int) (C := R_R) (T := F_R) (N := 9) hx hb hts in_R t_R t_R_ok n_R hown hK hP hD hS 0 rfl rfl 7 (by decide) (hts _ tb_73) (fun _ h9 => h9) rfl hin rfl (by decide +kernel) rfl rfl (Nat.le_of_ble_eq_true rfl) d_R_init_72 (fun H locs hP hD hS => ?_)
  have hP : va_P D cls_ [(h0, .inr (3, [.ref q8, .ref q17, .ref q26, .ref q35, .ref q44, .ref q53, .ref q62, .ref q70, .int 0])), (q8, .inl (c8, 200, .inl (fun _ => 0))), (q17, .inl (c8, 200, .inl (fun _ => 0))), (q26, .inl (c8, 200, .inl (fun _ => 0))), (q35, .inl (c8, 200, .inl (fun _ => 0))), (q44, .inl (c8, 200, .inl (fun _ => 0))), (q53, .inl (c8, 200, .inl (fun _ => 0))), (q62, .inl (c62, 200, .inl (fun _ => 0))), (q70, .inl (c8, 24, .inl (fun _ => 0)))] H := hP
  have hD : va_D A [(h0, .inr (3, [.ref q8, .ref q17, .ref q26, .ref q35, .ref q44, .ref q53, .ref q62, .ref q70, .int 0])), (q8, .inl (c8, 200, .inl (fun _ => 0))), (q17, .inl (c8, 200, .inl (fun _ => 0))), (q26, .inl (c8, 200, .inl (fun _ => 0))), (q35, .inl (c8, 200, .inl (fun _ => 0))), (q44, .inl (c8, 200, .inl (fun _ => 0))), (q53, .inl (c8, 200, .inl (fun _ => 0))), (q62, .inl (c62, 200, .inl (fun _ => 0))), (q70, .inl (c8, 24, .inl (fun _ => 0)))] := hD
  refine lv_aload_n hx hb d_R_init_75 rfl (lv_at hl 0 rfl) ?_
  refine lv_iconst (v := 0) hx hb d_R_init_76 (by decide) ?_
  refine va_put (D := D) (ci := 3) (v := .int 0) (ty := .int) (C := R_R) (T := F_R) (N := 9) hx hb hts in_R t_R t_R_ok n_R hown hK hP hD hS 0 rfl rfl 8 (by decide) (hts _ tb_75) (fun _ h9 => h9) rfl (by decide +kernel) rfl rfl (Nat.le_of_ble_eq_true rfl) d_R_init_77 (fun H locs hP hD hS => ?_)
  have hP : va_P D cls_ [(h0, .inr (3, [.ref q8, .ref q17, .ref q26, .ref q35, .ref q44, .ref q53, .ref q62, .ref q70, .int 0])), (q8, .inl (c8, 200, .inl (fun _ => 0))), (q17, .inl (c8, 200, .inl (fun _ => 0))), (q26, .inl (c8, 200, .inl (fun _ => 0))), (q35, .inl (c8, 200, .inl (fun _ => 0))), (q44, .inl (c8, 200, .inl (fun _ => 0))), (q53, .inl (c8, 200, .inl (fun _ => 0))), (q62, .inl (c62, 200, .inl (fun _ => 0))), (q70, .inl (c8, 24, .inl (fun _ => 0)))] H := hP
  have hD : va_D A [(h0, .inr (3, [.ref q8, .ref q17, .ref q26, .ref q35, .ref q44, .ref q53, .ref q62, .ref q70, .int 0])), (q8, .inl (c8, 200, .inl (fun _ => 0))), (q17, .inl (c8, 200, .inl (fun _ => 0))), (q26, .inl (c8, 200, .inl (fun _ => 0))), (q35, .inl (c8, 200, .inl (fun _ => 0))), (q44, .inl (c8, 200, .inl (fun _ => 0))), (q53, .inl (c8, 200, .inl (fun _ => 0))), (q62, .inl (c62, 200, .inl (fun _ => 0))), (q70, .inl (c8, 24, .inl (fun _ => 0)))] := hD
  have hP9 := hP.sub (ws' := [(h0, .inr (3, [.ref q8, .ref q17, .ref q26, .ref q35, .ref q44, .ref q53, .ref q62, .ref q70, .int 0])), (q8, .inl (c8, 200, .inl (fun _ => 0))), (q17, .inl (c8, 200, .inl (fun _ => 0))), (q26, .inl (c8, 200, .inl (fun _ => 0))), (q35, .inl (c8, 200, .inl (fun _ => 0))), (q44, .inl (c8, 200, .inl (fun _ => 0))), (q53, .inl (c8, 200, .inl (fun _ => 0))), (q62, .inl (c62, 200, .inl (fun _ => 0))), (q70, .inl (c8, 24, .inl (fun _ => 0)))]) [0, 1, 2, 3, 4, 5, 6, 7, 8] rfl
  have hD9 := hD.sub (ws' := [(h0, .inr (3, [.ref q8, .ref q17, .ref q26, .ref q35, .ref q44, .ref q53, .ref q62, .ref q70, .int 0])), (q8, .inl (c8, 200, .inl (fun _ => 0))), (q17, .inl (c8, 200, .inl (fun _ => 0))), (q26, .inl (c8, 200, .inl (fun _ => 0))), (q35, .inl (c8, 200, .inl (fun _ => 0))), (q44, .inl (c8, 200, .inl (fun _ => 0))), (q53, .inl (c8, 200, .inl (fun _ => 0))), (q62, .inl (c62, 200, .inl (fun _ => 0))), (q70, .inl (c8, 24, .inl (fun _ => 0)))]) [0, 1, 2, 3, 4, 5, 6, 7, 8] (by decide) rfl
  have hK9 : va_K D cls_ (ty_ c8 c62) s := hK.sub [0, 1] rfl
  exact W.vret hx hb hr (fun t ht hW => ⟨⟨((fun k : Nat => match k with | 0 => q8 | 1 => q17 | 2 => q26 | 3 => q35 | 4 => q44 | 5 => q53 | 6 => q62 | _ => q70), c8, c62), rfl, trivial, by rw [ht]; exact hP9, va_K.moved hW.alike hK9, hD9⟩, hS.F ht⟩) hS.2.2 d_R_init_80
abbrev rm_E_init : Room := { frames := 2, cells := 19, slots := 4109, locals := 32 }
theorem good_E_init : GoodIn TB (.code y_E_init b_E_init 1 none :: TB) := good_of tb_13
theorem hd_E_init : y_E_init.cls ≠ "java/lang/invoke/MethodHandle" ∧ y_E_init.cls ≠ "java/lang/invoke/VarHandle" ∧ (parseMethodDescriptor y_E_init.desc).map (fun d => d.parameters.length) = some 0 := by decide +kernel
theorem d_E_init_0 : decode b_E_init 0 = .ok (.aload_n 0, 1) := by decide +kernel
theorem d_E_init_1 : decode b_E_init 1 = .ok (.invokespecial 1, 3) := by decide +kernel
theorem d_E_init_4 : decode b_E_init 4 = .ok (.aload_n 0, 1) := by decide +kernel
theorem d_E_init_5 : decode b_E_init 5 = .ok (.bipush 64, 2) := by decide +kernel
theorem d_E_init_7 : decode b_E_init 7 = .ok (.newarray .int, 2) := by decide +kernel
theorem d_E_init_9 : decode b_E_init 9 = .ok (.putfield 9, 3) := by decide +kernel
theorem d_E_init_12 : decode b_E_init 12 = .ok (.aload_n 0, 1) := by decide +kernel
theorem d_E_init_13 : decode b_E_init 13 = .ok (.new 13, 3) := by decide +kernel
theorem d_E_init_16 : decode b_E_init 16 = .ok (.dup, 1) := by decide +kernel
theorem d_E_init_17 : decode b_E_init 17 = .ok (.invokespecial 15, 3) := by decide +kernel
theorem d_E_init_20 : decode b_E_init 20 = .ok (.putfield 16, 3) := by decide +kernel
theorem d_E_init_23 : decode b_E_init 23 = .ok (.aload_n 0, 1) := by decide +kernel
theorem d_E_init_24 : decode b_E_init 24 = .ok (.new 20, 3) := by decide +kernel
theorem d_E_init_27 : decode b_E_init 27 = .ok (.dup, 1) := by decide +kernel
theorem d_E_init_28 : decode b_E_init 28 = .ok (.invokespecial 22, 3) := by decide +kernel
theorem d_E_init_31 : decode b_E_init 31 = .ok (.putfield 23, 3) := by decide +kernel
theorem d_E_init_34 : decode b_E_init 34 = .ok (.aload_n 0, 1) := by decide +kernel
theorem d_E_init_35 : decode b_E_init 35 = .ok (.new 27, 3) := by decide +kernel
theorem d_E_init_38 : decode b_E_init 38 = .ok (.dup, 1) := by decide +kernel
theorem d_E_init_39 : decode b_E_init 39 = .ok (.invokespecial 29, 3) := by decide +kernel
theorem d_E_init_42 : decode b_E_init 42 = .ok (.putfield 30, 3) := by decide +kernel
theorem d_E_init_45 : decode b_E_init 45 = .ok (.aload_n 0, 1) := by decide +kernel
theorem d_E_init_46 : decode b_E_init 46 = .ok (.new 34, 3) := by decide +kernel
theorem d_E_init_49 : decode b_E_init 49 = .ok (.dup, 1) := by decide +kernel
theorem d_E_init_50 : decode b_E_init 50 = .ok (.invokespecial 36, 3) := by decide +kernel
theorem d_E_init_53 : decode b_E_init 53 = .ok (.putfield 37, 3) := by decide +kernel
theorem d_E_init_56 : decode b_E_init 56 = .ok (.aload_n 0, 1) := by decide +kernel
theorem d_E_init_57 : decode b_E_init 57 = .ok (.bipush 50, 2) := by decide +kernel
theorem d_E_init_59 : decode b_E_init 59 = .ok (.putfield 41, 3) := by decide +kernel
theorem d_E_init_62 : decode b_E_init 62 = .ok (.aload_n 0, 1) := by decide +kernel
theorem d_E_init_63 : decode b_E_init 63 = .ok (.sipush 500, 3) := by decide +kernel
theorem d_E_init_66 : decode b_E_init 66 = .ok (.putfield 45, 3) := by decide +kernel
theorem d_E_init_69 : decode b_E_init 69 = .ok (.aload_n 0, 1) := by decide +kernel
theorem d_E_init_70 : decode b_E_init 70 = .ok (.iconst 0, 1) := by decide +kernel
theorem d_E_init_71 : decode b_E_init 71 = .ok (.putfield 48, 3) := by decide +kernel
theorem d_E_init_74 : decode b_E_init 74 = .ok (.aload_n 0, 1) := by decide +kernel
theorem d_E_init_75 : decode b_E_init 75 = .ok (.iconst 0, 1) := by decide +kernel
theorem d_E_init_76 : decode b_E_init 76 = .ok (.putfield 51, 3) := by decide +kernel
theorem d_E_init_79 : decode b_E_init 79 = .ok (.aload_n 0, 1) := by decide +kernel
theorem d_E_init_80 : decode b_E_init 80 = .ok (.iconst 0, 1) := by decide +kernel
theorem d_E_init_81 : decode b_E_init 81 = .ok (.putfield 54, 3) := by decide +kernel
theorem d_E_init_84 : decode b_E_init 84 = .ok (.aload_n 0, 1) := by decide +kernel
theorem d_E_init_85 : decode b_E_init 85 = .ok (.iconst (-1), 1) := by decide +kernel
theorem d_E_init_86 : decode b_E_init 86 = .ok (.putfield 57, 3) := by decide +kernel
theorem d_E_init_89 : decode b_E_init 89 = .ok (.return_, 1) := by decide +kernel
set_option maxHeartbeats 4000000 in
set_option maxRecDepth 100000 in
theorem c_E_init (l : Launch) (D : va_G) (h0 sz : Nat) : Met l y_E_init (.code y_E_init b_E_init 1 none :: TB) rm_E_init (va_Pc [.ref h0] (fun U => U.heap.size = sz ∧ va_P D cls_ [(h0, .inr (4, [.null, .null, .null, .null, .null, .int 0, .int 0, .int 0, .int 0, .int 0, .int 0]))] U.heap ∧ va_K D cls_ [] U ∧ va_D (fun _ => True) [(h0, .inr (4, [.null, .null, .null, .null, .null, .int 0, .int 0, .int 0, .int 0, .int 0, .int 0]))] ∧ NW U)) (va_Qv (fun u : (Nat → Nat) × ClassId × ClassId => u.1 0 = h0) (fun u t => va_P D cls_ (wE u.1 u.2.1 u.2.2 gE0) t.heap ∧ va_K D cls_ (ty_ u.2.1 u.2.2) t ∧ va_D (va_A [(h0, .inr (4, [.null, .null, .null, .null, .null, .int 0, .int 0, .int 0, .int 0, .int 0, .int 0]))] sz) (wE u.1 u.2.1 u.2.2 gE0)) (va_A [(h0, .inr (4, [.null, .null, .null, .null, .null, .int 0, .int 0, .int 0, .int 0, .int 0, .int 0]))] sz)) 19 4109 (va_A [(h0, .inr (4, [.null, .null, .null, .null, .null, .int 0, .int 0, .int 0, .int 0, .int 0, .int 0]))] sz) := by
  refine Met.ofW (cc := b_E_init) (maxL := 1) (ret := none) (by decide +kernel) rfl ?_
  intro p e s m args below meth c s₁ B hml hv
  obtain ⟨rfl, hsz, hP, hK, hD0, hN⟩ := hv
  have hx := B.exec
  have hb := B.bytes
  have hr := B.returns
  have hts0 := atoms_spec (ws := Cond.code y_E_init b_E_init 1 none :: TB) B.pre
  have hts : ∀ w ∈ TB, w.before _ s = true := fun w h => hts0 w (List.mem_cons_of_mem _ h)
  have hown : s.vm.findClass R_E = some m.cls := findClass_of_methodNamed B.named
  have hlocks := B.notSynchronized
  have hin : meth.name = "<init>" := (name_of_methodNamed B.named B.method).1
  subst hsz
  have hD := hD0.self (sz := s.heap.size)
  generalize hAe : va_A [(h0, .inr (4, [.null, .null, .null, .null, .null, .int 0, .int 0, .int 0, .int 0, .int 0, .int 0]))] s.heap.size = A at hD ⊢
  have hA : ∀ q : Nat, s.heap.size ≤ q → A q := fun q h => by rw [← hAe]; exact Or.inr h
  have hS : va_S A s.heap s.heap [] := va_S.rf
  have hl := lv_entry ([.ref h0]) (n := 1) (Nat.le_of_ble_eq_true rfl)
  rw [lg_entry_eq]
  generalize (lg_sl ([.ref h0]) ++ List.replicate (1 - (lg_sl ([.ref h0])).length) Slot.unset).toArray = ls at hl ⊢
  have hl : lv_has ls 1 [(0, .ref h0)] := hl
  refine lv_aload_n hx hb d_E_init_0 rfl (lv_at hl 0 rfl) ?_
  refine W.objInit hx hb hown (hts _ tb_14) (hts _ tb_15) (hts _ tb_16) rfl (by rw [hml]; exact hl.1) rfl d_E_init_1 (Nat.le_of_ble_eq_true rfl) (Nat.le_of_ble_eq_true rfl) ?_
  refine W.eq (g2 := F0 m 4 ls []) rfl ?_
  refine lv_aload_n hx hb d_E_init_4 rfl (lv_at hl 0 rfl) ?_
  refine lv_bipush (v := 64) hx hb d_E_init_5 (by decide) ?_
  refine va_newa (atype := .int) (ty := .int) (N' := 64) (a0 := (64, .inl (fun _ => 0))) hx hb (hts _ tb_51) rfl hK hP hD hS hA (fun _ => rfl) (by decide) (by decide) (by decide) (Nat.le_of_ble_eq_true rfl) (Nat.le_of_ble_eq_true rfl) d_E_init_7 (fun q7 c7 H hK hP hD hS => ?_)
  refine W.widen (k := 1) (n := 64) (by decide) (by decide) ?_
  have hK : va_K D cls_ [(c7, .int)] s := hK
  have hP : va_P D cls_ [(h0, .inr (4, [.null, .null, .null, .null, .null, .int 0, .int 0, .int 0, .int 0, .int 0, .int 0])), (q7, .inl (c7, 64, .inl (fun _ => 0)))] H := hP
  have hD : va_D A [(h0, .inr (4, [.null, .null, .null, .null, .null, .int 0, .int 0, .int 0, .int 0, .int 0, .int 0])), (q7, .inl (c7, 64, .inl (fun _ => 0)))] := hD
  refine va_putF (D := D) (ci := 4) (v := .ref q7) (ty := .array .int) (C := R_E) (T := F_E) (N := 11) hx hb hts in_E t_E t_E_ok n_E hown hK hP hD hS 0 rfl rfl 0 (by decide) (hts _ tb_128) (fun _ h9 => h9) rfl hin rfl (by decide +kernel) rfl rfl (Nat.le_of_ble_eq_true rfl) d_E_init_9 (fun H locs hP hD hS => ?_)
  have hP : va_P D cls_ [(h0, .inr (4, [.ref q7, .null, .null, .null, .null, .int 0, .int 0, .int 0, .int 0, .int 0, .int 0])), (q7, .inl (c7, 64, .inl (fun _ => 0)))] H := hP
  have hD : va_D A [(h0, .inr (4, [.ref q7, .null, .null, .null, .null, .int 0, .int 0, .int 0, .int 0, .int 0, .int 0])), (q7, .inl (c7, 64, .inl (fun _ => 0)))] := hD
  refine lv_aload_n hx hb d_E_init_12 rfl (lv_at hl 0 rfl) ?_
  refine va_new (ci := 2) (fs := [.null, .null, .null, .null, .null, .null, .int 0]) (C := R_P) (T := F_P) (N := 7) hx hb hts in_P t_P t_P_ok hown (hts _ tb_17) (hts _ tb_18) (hts _ tb_2) hK hP hD hS hA rfl (fun j hj => by rcases (show j = 0 ∨ j = 1 ∨ j = 2 ∨ j = 3 ∨ j = 4 ∨ j = 5 ∨ j = 6 by omega) with rfl | rfl | rfl | rfl | rfl | rfl | rfl <;> rfl) (Nat.le_of_ble_eq_true rfl) (Nat.le_of_ble_eq_true rfl) d_E_init_13 (fun q13 H hP hD hS => ?_)
  refine W.widen (k := 2) (n := 71) (by decide) (by decide) ?_
  have hP : va_P D cls_ [(h0, .inr (4, [.ref q7, .null, .null, .null, .null, .int 0, .int 0, .int 0, .int 0, .int 0, .int 0])), (q7, .inl (c7, 64, .inl (fun _ => 0))), (q13, .inr (2, [.null, .null, .null, .null, .null, .null, .int 0]))] H := hP
  have hD : va_D A [(h0, .inr (4, [.ref q7, .null, .null, .null, .null, .int 0, .int 0, .int 0, .int 0, .int 0, .int 0])), (q7, .inl (c7, 64, .inl (fun _ => 0))), (q13, .inr (2, [.null, .null, .null, .null, .null, .null, .int 0]))] := hD
  refine lv_dup hx hb d_E_init_16 rfl ?_
  have hPc := hP.sub (ws' := [(q13, .inr (2, [.null, .null, .null, .null, .null, .null, .int 0]))]) [2] rfl
  have hDc := hD.sub (ws' := [(q13, .inr (2, [.null, .null, .null, .null, .null, .null, .int 0]))]) [2] (by decide) rfl
  have hKc : va_K D cls_ [] s := hK.sub (tys' := []) [] rfl
  have hFc := va_free (wc := [(q13, .inr (2, [.null, .null, .null, .null, .null, .null, .int 0]))]) hD hS hA [2] rfl
  refine va_callv (va_runIN (As := []) (rest := [.ref q13, .ref h0]) ⟨hx, hb, hml, hown, hts⟩ (c_P_init l D q13 H.size) ⟨va_cnB 0 hts good_P_init rfl rfl rfl (hN _ tn_19) (hts _ tb_2) hd_P_init ⟨Nat.le_of_ble_eq_true rfl, Nat.le_of_ble_eq_true rfl⟩, rfl, hts _ tb_20⟩ (preI hPc hDc hKc hN) rfl rfl hl.1 rfl (lv_room (Nat.le_of_ble_eq_true rfl)) d_E_init_17 ⟨Nat.le_of_ble_eq_true rfl, Nat.le_of_ble_eq_true rfl⟩) hS (fun q _ h => hFc q h) hFc (fun u17 t H1 locs ht hvm hw hB hz1 hk1 hS => ?_)
  obtain ⟨hP1, hK1, hD1⟩ := hB
  rw [ht] at hP1
  have hK1 := va_K.moved hvm.symm hK1
  obtain ⟨hP, hD⟩ := va_join (wr := [(h0, .inr (4, [.ref q7, .null, .null, .null, .null, .int 0, .int 0, .int 0, .int 0, .int 0, .int 0])), (q7, .inl (c7, 64, .inl (fun _ => 0)))]) (w1 := [(q13, .inr (2, [.ref (u17.1 0), .ref (u17.1 1), .ref (u17.1 2), .ref (u17.1 3), .ref (u17.1 4), .ref (u17.1 5), .int 0])), ((u17.1 0), .inl (u17.2.1, 200, .inl (fun _ => 0))), ((u17.1 1), .inl (u17.2.1, 200, .inl (fun _ => 0))), ((u17.1 2), .inl (u17.2.1, 200, .inl (fun _ => 0))), ((u17.1 3), .inl (u17.2.1, 200, .inl (fun _ => 0))), ((u17.1 4), .inl (u17.2.2, 200, .inl (fun _ => 0))), ((u17.1 5), .inl (u17.2.1, 1600, .inl (fun _ => 0)))]) hP hD [2] [0, 1] rfl rfl (by decide) (by decide) hk1 hFc hP1 hD1
  generalize H1 = H at hP hS ⊢
  obtain ⟨u17a, u17I, u17Z⟩ := u17
  have hK := hK.app hK1
  have e17I : c7 = u17I := arr_eqI hK 0 1 rfl rfl
  subst e17I
  have hK : va_K D cls_ [(c7, .int), (u17Z, .boolean)] s := hK.sub [0, 2] rfl
  refine W.widen (k := 8) (n := 2671) (by decide) (by decide) ?_
  have hP : va_P D cls_ [(h0, .inr (4, [.ref q7, .null, .null, .null, .null, .int 0, .int 0, .int 0, .int 0, .int 0, .int 0])), (q7, .inl (c7, 64, .inl (fun _ => 0))), (q13, .inr (2, [.ref (u17a 0), .ref (u17a 1), .ref (u17a 2), .ref (u17a 3), .ref (u17a 4), .ref (u17a 5), .int 0])), ((u17a 0), .inl (c7, 200, .inl (fun _ => 0))), ((u17a 1), .inl (c7, 200, .inl (fun _ => 0))), ((u17a 2), .inl (c7, 200, .inl (fun _ => 0))), ((u17a 3), .inl (c7, 200, .inl (fun _ => 0))), ((u17a 4), .inl (u17Z, 200, .inl (fun _ => 0))), ((u17a 5), .inl (c7, 1600, .inl (fun _ => 0)))] H := hP
  have hD : va_D A [(h0, .inr (4, [.ref q7, .null, .null, .null, .null, .int 0, .int 0, .int 0, .int 0, .int 0, .int 0])), (q7, .inl (c7, 64, .inl (fun _ => 0))), (q13, .inr (2, [.ref (u17a 0), .ref (u17a 1), .ref (u17a 2), .ref (u17a 3), .ref (u17a 4), .ref (u17a 5), .int 0])), ((u17a 0), .inl (c7, 200, .inl (fun _ => 0))), ((u17a 1), .inl (c7, 200, .inl (fun _ => 0))), ((u17a 2), .inl (c7, 200, .inl (fun _ => 0))), ((u17a 3), .inl (c7, 200, .inl (fun _ => 0))), ((u17a 4), .inl (u17Z, 200, .inl (fun _ => 0))), ((u17a 5), .inl (c7, 1600, .inl (fun _ => 0)))] := hD
  refine va_putF (D := D) (ci := 4) (v := .ref q13) (ty := .object "DeadlineElevator$Parts") (C := R_E) (T := F_E) (N := 11) hx hb hts in_E t_E t_E_ok n_E hown hK hP hD hS 0 rfl rfl 1 (by decide) (hts _ tb_129) (fun _ h9 => h9) rfl hin rfl (by decide +kernel) rfl rfl (Nat.le_of_ble_eq_true rfl) d_E_init_20 (fun H locs hP hD hS => ?_)
  have hP : va_P D cls_ [(h0, .inr (4, [.ref q7, .ref q13, .null, .null, .null, .int 0, .int 0, .int 0, .int 0, .int 0, .int 0])), (q7, .inl (c7, 64, .inl (fun _ => 0))), (q13, .inr (2, [.ref (u17a 0), .ref (u17a 1), .ref (u17a 2), .ref (u17a 3), .ref (u17a 4), .ref (u17a 5), .int 0])), ((u17a 0), .inl (c7, 200, .inl (fun _ => 0))), ((u17a 1), .inl (c7, 200, .inl (fun _ => 0))), ((u17a 2), .inl (c7, 200, .inl (fun _ => 0))), ((u17a 3), .inl (c7, 200, .inl (fun _ => 0))), ((u17a 4), .inl (u17Z, 200, .inl (fun _ => 0))), ((u17a 5), .inl (c7, 1600, .inl (fun _ => 0)))] H := hP
  have hD : va_D A [(h0, .inr (4, [.ref q7, .ref q13, .null, .null, .null, .int 0, .int 0, .int 0, .int 0, .int 0, .int 0])), (q7, .inl (c7, 64, .inl (fun _ => 0))), (q13, .inr (2, [.ref (u17a 0), .ref (u17a 1), .ref (u17a 2), .ref (u17a 3), .ref (u17a 4), .ref (u17a 5), .int 0])), ((u17a 0), .inl (c7, 200, .inl (fun _ => 0))), ((u17a 1), .inl (c7, 200, .inl (fun _ => 0))), ((u17a 2), .inl (c7, 200, .inl (fun _ => 0))), ((u17a 3), .inl (c7, 200, .inl (fun _ => 0))), ((u17a 4), .inl (u17Z, 200, .inl (fun _ => 0))), ((u17a 5), .inl (c7, 1600, .inl (fun _ => 0)))] := hD
  refine lv_aload_n hx hb d_E_init_23 rfl (lv_at hl 0 rfl) ?_
  refine va_new (ci := 3) (fs := [.null, .null, .null, .null, .null, .null, .null, .null, .int 0]) (C := R_R) (T := F_R) (N := 9) hx hb hts in_R t_R t_R_ok hown (hts _ tb_53) (hts _ tb_54) (hts _ tb_3) hK hP hD hS hA rfl (fun j hj => by rcases (show j = 0 ∨ j = 1 ∨ j = 2 ∨ j = 3 ∨ j = 4 ∨ j = 5 ∨ j = 6 ∨ j = 7 ∨ j = 8 by omega) with rfl | rfl | rfl | rfl | rfl | rfl | rfl | rfl | rfl <;> rfl) (Nat.le_of_ble_eq_true rfl) (Nat.le_of_ble_eq_true rfl) d_E_init_24 (fun q24 H hP hD hS => ?_)
  refine W.widen (k := 9) (n := 2680) (by decide) (by decide) ?_
  have hP : va_P D cls_ [(h0, .inr (4, [.ref q7, .ref q13, .null, .null, .null, .int 0, .int 0, .int 0, .int 0, .int 0, .int 0])), (q7, .inl (c7, 64, .inl (fun _ => 0))), (q13, .inr (2, [.ref (u17a 0), .ref (u17a 1), .ref (u17a 2), .ref (u17a 3), .ref (u17a 4), .ref (u17a 5), .int 0])), ((u17a 0), .inl (c7, 200, .inl (fun _ => 0))), ((u17a 1), .inl (c7, 200, .inl (fun _ => 0))), ((u17a 2), .inl (c7, 200, .inl (fun _ => 0))), ((u17a 3), .inl (c7, 200, .inl (fun _ => 0))), ((u17a 4), .inl (u17Z, 200, .inl (fun _ => 0))), ((u17a 5), .inl (c7, 1600, .inl (fun _ => 0))), (q24, .inr (3, [.null, .null, .null, .null, .null, .null, .null, .null, .int 0]))] H := hP
  have hD : va_D A [(h0, .inr (4, [.ref q7, .ref q13, .null, .null, .null, .int 0, .int 0, .int 0, .int 0, .int 0, .int 0])), (q7, .inl (c7, 64, .inl (fun _ => 0))), (q13, .inr (2, [.ref (u17a 0), .ref (u17a 1), .ref (u17a 2), .ref (u17a 3), .ref (u17a 4), .ref (u17a 5), .int 0])), ((u17a 0), .inl (c7, 200, .inl (fun _ => 0))), ((u17a 1), .inl (c7, 200, .inl (fun _ => 0))), ((u17a 2), .inl (c7, 200, .inl (fun _ => 0))), ((u17a 3), .inl (c7, 200, .inl (fun _ => 0))), ((u17a 4), .inl (u17Z, 200, .inl (fun _ => 0))), ((u17a 5), .inl (c7, 1600, .inl (fun _ => 0))), (q24, .inr (3, [.null, .null, .null, .null, .null, .null, .null, .null, .int 0]))] := hD
  refine lv_dup hx hb d_E_init_27 rfl ?_
  have hPc := hP.sub (ws' := [(q24, .inr (3, [.null, .null, .null, .null, .null, .null, .null, .null, .int 0]))]) [9] rfl
  have hDc := hD.sub (ws' := [(q24, .inr (3, [.null, .null, .null, .null, .null, .null, .null, .null, .int 0]))]) [9] (by decide) rfl
  have hKc : va_K D cls_ [] s := hK.sub (tys' := []) [] rfl
  have hFc := va_free (wc := [(q24, .inr (3, [.null, .null, .null, .null, .null, .null, .null, .null, .int 0]))]) hD hS hA [9] rfl
  refine va_callv (va_runIN (As := []) (rest := [.ref q24, .ref h0]) ⟨hx, hb, hml, hown, hts⟩ (c_R_init l D q24 H.size) ⟨va_cnB 0 hts good_R_init rfl rfl rfl (hN _ tn_55) (hts _ tb_3) hd_R_init ⟨Nat.le_of_ble_eq_true rfl, Nat.le_of_ble_eq_true rfl⟩, rfl, hts _ tb_56⟩ (preI hPc hDc hKc hN) rfl rfl hl.1 rfl (lv_room (Nat.le_of_ble_eq_true rfl)) d_E_init_28 ⟨Nat.le_of_ble_eq_true rfl, Nat.le_of_ble_eq_true rfl⟩) hS (fun q _ h => hFc q h) hFc (fun u28 t H1 locs ht hvm hw hB hz1 hk1 hS => ?_)
  obtain ⟨hP1, hK1, hD1⟩ := hB
  rw [ht] at hP1
  have hK1 := va_K.moved hvm.symm hK1
  obtain ⟨hP, hD⟩ := va_join (wr := [(h0, .inr (4, [.ref q7, .ref q13, .null, .null, .null, .int 0, .int 0, .int 0, .int 0, .int 0, .int 0])), (q7, .inl (c7, 64, .inl (fun _ => 0))), (q13, .inr (2, [.ref (u17a 0), .ref (u17a 1), .ref (u17a 2), .ref (u17a 3), .ref (u17a 4), .ref (u17a 5), .int 0])), ((u17a 0), .inl (c7, 200, .inl (fun _ => 0))), ((u17a 1), .inl (c7, 200, .inl (fun _ => 0))), ((u17a 2), .inl (c7, 200, .inl (fun _ => 0))), ((u17a 3), .inl (c7, 200, .inl (fun _ => 0))), ((u17a 4), .inl (u17Z, 200, .inl (fun _ => 0))), ((u17a 5), .inl (c7, 1600, .inl (fun _ => 0)))]) (w1 := [(q24, .inr (3, [.ref (u28.1 0), .ref (u28.1 1), .ref (u28.1 2), .ref (u28.1 3), .ref (u28.1 4), .ref (u28.1 5), .ref (u28.1 6), .ref (u28.1 7), .int 0])), ((u28.1 0), .inl (u28.2.1, 200, .inl (fun _ => 0))), ((u28.1 1), .inl (u28.2.1, 200, .inl (fun _ => 0))), ((u28.1 2), .inl (u28.2.1, 200, .inl (fun _ => 0))), ((u28.1 3), .inl (u28.2.1, 200, .inl (fun _ => 0))), ((u28.1 4), .inl (u28.2.1, 200, .inl (fun _ => 0))), ((u28.1 5), .inl (u28.2.1, 200, .inl (fun _ => 0))), ((u28.1 6), .inl (u28.2.2, 200, .inl (fun _ => 0))), ((u28.1 7), .inl (u28.2.1, 24, .inl (fun _ => 0)))]) hP hD [9] [0, 1, 2, 3, 4, 5, 6, 7, 8] rfl rfl (by decide) (by decide) hk1 hFc hP1 hD1
  generalize H1 = H at hP hS ⊢
  obtain ⟨u28a, u28I, u28Z⟩ := u28
  have hK := hK.app hK1
  have e28I : c7 = u28I := arr_eqI hK 0 2 rfl rfl
  subst e28I
  have e28Z : u17Z = u28Z := arr_eqZ hK 1 3 rfl rfl
  subst e28Z
  have hK : va_K D cls_ [(c7, .int), (u17Z, .boolean)] s := hK.sub [0, 1] rfl
  refine W.widen (k := 17) (n := 4104) (by decide) (by decide) ?_
  have hP : va_P D cls_ [(h0, .inr (4, [.ref q7, .ref q13, .null, .null, .null, .int 0, .int 0, .int 0, .int 0, .int 0, .int 0])), (q7, .inl (c7, 64, .inl (fun _ => 0))), (q13, .inr (2, [.ref (u17a 0), .ref (u17a 1), .ref (u17a 2), .ref (u17a 3), .ref (u17a 4), .ref (u17a 5), .int 0])), ((u17a 0), .inl (c7, 200, .inl (fun _ => 0))), ((u17a 1), .inl (c7, 200, .inl (fun _ => 0))), ((u17a 2), .inl (c7, 200, .inl (fun _ => 0))), ((u17a 3), .inl (c7, 200, .inl (fun _ => 0))), ((u17a 4), .inl (u17Z, 200, .inl (fun _ => 0))), ((u17a 5), .inl (c7, 1600, .inl (fun _ => 0))), (q24, .inr (3, [.ref (u28a 0), .ref (u28a 1), .ref (u28a 2), .ref (u28a 3), .ref (u28a 4), .ref (u28a 5), .ref (u28a 6), .ref (u28a 7), .int 0])), ((u28a 0), .inl (c7, 200, .inl (fun _ => 0))), ((u28a 1), .inl (c7, 200, .inl (fun _ => 0))), ((u28a 2), .inl (c7, 200, .inl (fun _ => 0))), ((u28a 3), .inl (c7, 200, .inl (fun _ => 0))), ((u28a 4), .inl (c7, 200, .inl (fun _ => 0))), ((u28a 5), .inl (c7, 200, .inl (fun _ => 0))), ((u28a 6), .inl (u17Z, 200, .inl (fun _ => 0))), ((u28a 7), .inl (c7, 24, .inl (fun _ => 0)))] H := hP
  have hD : va_D A [(h0, .inr (4, [.ref q7, .ref q13, .null, .null, .null, .int 0, .int 0, .int 0, .int 0, .int 0, .int 0])), (q7, .inl (c7, 64, .inl (fun _ => 0))), (q13, .inr (2, [.ref (u17a 0), .ref (u17a 1), .ref (u17a 2), .ref (u17a 3), .ref (u17a 4), .ref (u17a 5), .int 0])), ((u17a 0), .inl (c7, 200, .inl (fun _ => 0))), ((u17a 1), .inl (c7, 200, .inl (fun _ => 0))), ((u17a 2), .inl (c7, 200, .inl (fun _ => 0))), ((u17a 3), .inl (c7, 200, .inl (fun _ => 0))), ((u17a 4), .inl (u17Z, 200, .inl (fun _ => 0))), ((u17a 5), .inl (c7, 1600, .inl (fun _ => 0))), (q24, .inr (3, [.ref (u28a 0), .ref (u28a 1), .ref (u28a 2), .ref (u28a 3), .ref (u28a 4), .ref (u28a 5), .ref (u28a 6), .ref (u28a 7), .int 0])), ((u28a 0), .inl (c7, 200, .inl (fun _ => 0))), ((u28a 1), .inl (c7, 200, .inl (fun _ => 0))), ((u28a 2), .inl (c7, 200, .inl (fun _ => 0))), ((u28a 3), .inl (c7, 200, .inl (fun _ => 0))), ((u28a 4), .inl (c7, 200, .inl (fun _ => 0))), ((u28a 5), .inl (c7, 200, .inl (fun _ => 0))), ((u28a 6), .inl (u17Z, 200, .inl (fun _ => 0))), ((u28a 7), .inl (c7, 24, .inl (fun _ => 0)))] := hD
  refine va_putF (D := D) (ci := 4) (v := .ref q24) (ty := .object "DeadlineElevator$Requests") (C := R_E) (T := F_E) (N := 11) hx hb hts in_E t_E t_E_ok n_E hown hK hP hD hS 0 rfl rfl 2 (by decide) (hts _ tb_130) (fun _ h9 => h9) rfl hin rfl (by decide +kernel) rfl rfl (Nat.le_of_ble_eq_true rfl) d_E_init_31 (fun H locs hP hD hS => ?_)
  have hP : va_P D cls_ [(h0, .inr (4, [.ref q7, .ref q13, .ref q24, .null, .null, .int 0, .int 0, .int 0, .int 0, .int 0, .int 0])), (q7, .inl (c7, 64, .inl (fun _ => 0))), (q13, .inr (2, [.ref (u17a 0), .ref (u17a 1), .ref (u17a 2), .ref (u17a 3), .ref (u17a 4), .ref (u17a 5), .int 0])), ((u17a 0), .inl (c7, 200, .inl (fun _ => 0))), ((u17a 1), .inl (c7, 200, .inl (fun _ => 0))), ((u17a 2), .inl (c7, 200, .inl (fun _ => 0))), ((u17a 3), .inl (c7, 200, .inl (fun _ => 0))), ((u17a 4), .inl (u17Z, 200, .inl (fun _ => 0))), ((u17a 5), .inl (c7, 1600, .inl (fun _ => 0))), (q24, .inr (3, [.ref (u28a 0), .ref (u28a 1), .ref (u28a 2), .ref (u28a 3), .ref (u28a 4), .ref (u28a 5), .ref (u28a 6), .ref (u28a 7), .int 0])), ((u28a 0), .inl (c7, 200, .inl (fun _ => 0))), ((u28a 1), .inl (c7, 200, .inl (fun _ => 0))), ((u28a 2), .inl (c7, 200, .inl (fun _ => 0))), ((u28a 3), .inl (c7, 200, .inl (fun _ => 0))), ((u28a 4), .inl (c7, 200, .inl (fun _ => 0))), ((u28a 5), .inl (c7, 200, .inl (fun _ => 0))), ((u28a 6), .inl (u17Z, 200, .inl (fun _ => 0))), ((u28a 7), .inl (c7, 24, .inl (fun _ => 0)))] H := hP
  have hD : va_D A [(h0, .inr (4, [.ref q7, .ref q13, .ref q24, .null, .null, .int 0, .int 0, .int 0, .int 0, .int 0, .int 0])), (q7, .inl (c7, 64, .inl (fun _ => 0))), (q13, .inr (2, [.ref (u17a 0), .ref (u17a 1), .ref (u17a 2), .ref (u17a 3), .ref (u17a 4), .ref (u17a 5), .int 0])), ((u17a 0), .inl (c7, 200, .inl (fun _ => 0))), ((u17a 1), .inl (c7, 200, .inl (fun _ => 0))), ((u17a 2), .inl (c7, 200, .inl (fun _ => 0))), ((u17a 3), .inl (c7, 200, .inl (fun _ => 0))), ((u17a 4), .inl (u17Z, 200, .inl (fun _ => 0))), ((u17a 5), .inl (c7, 1600, .inl (fun _ => 0))), (q24, .inr (3, [.ref (u28a 0), .ref (u28a 1), .ref (u28a 2), .ref (u28a 3), .ref (u28a 4), .ref (u28a 5), .ref (u28a 6), .ref (u28a 7), .int 0])), ((u28a 0), .inl (c7, 200, .inl (fun _ => 0))), ((u28a 1), .inl (c7, 200, .inl (fun _ => 0))), ((u28a 2), .inl (c7, 200, .inl (fun _ => 0))), ((u28a 3), .inl (c7, 200, .inl (fun _ => 0))), ((u28a 4), .inl (c7, 200, .inl (fun _ => 0))), ((u28a 5), .inl (c7, 200, .inl (fun _ => 0))), ((u28a 6), .inl (u17Z, 200, .inl (fun _ => 0))), ((u28a 7), .inl (c7, 24, .inl (fun _ => 0)))] := hD
  refine lv_aload_n hx hb d_E_init_34 rfl (lv_at hl 0 rfl) ?_
  refine va_new (ci := 1) (fs := [.long 0, .long 0]) (C := R_C) (T := F_C) (N := 2) hx hb hts in_C t_C t_C_ok hown (hts _ tb_96) (hts _ tb_97) (hts _ tb_4) hK hP hD hS hA rfl (fun j hj => by rcases (show j = 0 ∨ j = 1 by omega) with rfl | rfl <;> rfl) (Nat.le_of_ble_eq_true rfl) (Nat.le_of_ble_eq_true rfl) d_E_init_35 (fun q35 H hP hD hS => ?_)
  refine W.widen (k := 18) (n := 4106) (by decide) (by decide) ?_
  have hP : va_P D cls_ [(h0, .inr (4, [.ref q7, .ref q13, .ref q24, .null, .null, .int 0, .int 0, .int 0, .int 0, .int 0, .int 0])), (q7, .inl (c7, 64, .inl (fun _ => 0))), (q13, .inr (2, [.ref (u17a 0), .ref (u17a 1), .ref (u17a 2), .ref (u17a 3), .ref (u17a 4), .ref (u17a 5), .int 0])), ((u17a 0), .inl (c7, 200, .inl (fun _ => 0))), ((u17a 1), .inl (c7, 200, .inl (fun _ => 0))), ((u17a 2), .inl (c7, 200, .inl (fun _ => 0))), ((u17a 3), .inl (c7, 200, .inl (fun _ => 0))), ((u17a 4), .inl (u17Z, 200, .inl (fun _ => 0))), ((u17a 5), .inl (c7, 1600, .inl (fun _ => 0))), (q24, .inr (3, [.ref (u28a 0), .ref (u28a 1), .ref (u28a 2), .ref (u28a 3), .ref (u28a 4), .ref (u28a 5), .ref (u28a 6), .ref (u28a 7), .int 0])), ((u28a 0), .inl (c7, 200, .inl (fun _ => 0))), ((u28a 1), .inl (c7, 200, .inl (fun _ => 0))), ((u28a 2), .inl (c7, 200, .inl (fun _ => 0))), ((u28a 3), .inl (c7, 200, .inl (fun _ => 0))), ((u28a 4), .inl (c7, 200, .inl (fun _ => 0))), ((u28a 5), .inl (c7, 200, .inl (fun _ => 0))), ((u28a 6), .inl (u17Z, 200, .inl (fun _ => 0))), ((u28a 7), .inl (c7, 24, .inl (fun _ => 0))), (q35, .inr (1, [.long 0, .long 0]))] H := hP
  have hD : va_D A [(h0, .inr (4, [.ref q7, .ref q13, .ref q24, .null, .null, .int 0, .int 0, .int 0, .int 0, .int 0, .int 0])), (q7, .inl (c7, 64, .inl (fun _ => 0))), (q13, .inr (2, [.ref (u17a 0), .ref (u17a 1), .ref (u17a 2), .ref (u17a 3), .ref (u17a 4), .ref (u17a 5), .int 0])), ((u17a 0), .inl (c7, 200, .inl (fun _ => 0))), ((u17a 1), .inl (c7, 200, .inl (fun _ => 0))), ((u17a 2), .inl (c7, 200, .inl (fun _ => 0))), ((u17a 3), .inl (c7, 200, .inl (fun _ => 0))), ((u17a 4), .inl (u17Z, 200, .inl (fun _ => 0))), ((u17a 5), .inl (c7, 1600, .inl (fun _ => 0))), (q24, .inr (3, [.ref (u28a 0), .ref (u28a 1), .ref (u28a 2), .ref (u28a 3), .ref (u28a 4), .ref (u28a 5), .ref (u28a 6), .ref (u28a 7), .int 0])), ((u28a 0), .inl (c7, 200, .inl (fun _ => 0))), ((u28a 1), .inl (c7, 200, .inl (fun _ => 0))), ((u28a 2), .inl (c7, 200, .inl (fun _ => 0))), ((u28a 3), .inl (c7, 200, .inl (fun _ => 0))), ((u28a 4), .inl (c7, 200, .inl (fun _ => 0))), ((u28a 5), .inl (c7, 200, .inl (fun _ => 0))), ((u28a 6), .inl (u17Z, 200, .inl (fun _ => 0))), ((u28a 7), .inl (c7, 24, .inl (fun _ => 0))), (q35, .inr (1, [.long 0, .long 0]))] := hD
  refine lv_dup hx hb d_E_init_38 rfl ?_
  have hPc := hP.sub (ws' := [(q35, .inr (1, [.long 0, .long 0]))]) [18] rfl
  have hDc := hD.sub (ws' := [(q35, .inr (1, [.long 0, .long 0]))]) [18] (by decide) rfl
  have hKc : va_K D cls_ [] s := hK.sub (tys' := []) [] rfl
  have hFc := va_free (wc := [(q35, .inr (1, [.long 0, .long 0]))]) hD hS hA [18] rfl
  refine va_callv (va_runIN (As := []) (rest := [.ref q35, .ref h0]) ⟨hx, hb, hml, hown, hts⟩ (c_C_init l D q35 H.size) ⟨va_cnB 0 hts good_C_init rfl rfl rfl (hN _ tn_98) (hts _ tb_4) hd_C_init ⟨Nat.le_of_ble_eq_true rfl, Nat.le_of_ble_eq_true rfl⟩, rfl, hts _ tb_99⟩ (preI hPc hDc hKc hN) rfl rfl hl.1 rfl (lv_room (Nat.le_of_ble_eq_true rfl)) d_E_init_39 ⟨Nat.le_of_ble_eq_true rfl, Nat.le_of_ble_eq_true rfl⟩) hS (fun q _ h => hFc q h) hFc (fun u39 t H1 locs ht hvm hw hB hz1 hk1 hS => ?_)
  obtain ⟨hP1, hK1, hD1⟩ := hB
  rw [ht] at hP1
  have hK1 := va_K.moved hvm.symm hK1
  obtain ⟨hP, hD⟩ := va_join (wr := [(h0, .inr (4, [.ref q7, .ref q13, .ref q24, .null, .null, .int 0, .int 0, .int 0, .int 0, .int 0, .int 0])), (q7, .inl (c7, 64, .inl (fun _ => 0))), (q13, .inr (2, [.ref (u17a 0), .ref (u17a 1), .ref (u17a 2), .ref (u17a 3), .ref (u17a 4), .ref (u17a 5), .int 0])), ((u17a 0), .inl (c7, 200, .inl (fun _ => 0))), ((u17a 1), .inl (c7, 200, .inl (fun _ => 0))), ((u17a 2), .inl (c7, 200, .inl (fun _ => 0))), ((u17a 3), .inl (c7, 200, .inl (fun _ => 0))), ((u17a 4), .inl (u17Z, 200, .inl (fun _ => 0))), ((u17a 5), .inl (c7, 1600, .inl (fun _ => 0))), (q24, .inr (3, [.ref (u28a 0), .ref (u28a 1), .ref (u28a 2), .ref (u28a 3), .ref (u28a 4), .ref (u28a 5), .ref (u28a 6), .ref (u28a 7), .int 0])), ((u28a 0), .inl (c7, 200, .inl (fun _ => 0))), ((u28a 1), .inl (c7, 200, .inl (fun _ => 0))), ((u28a 2), .inl (c7, 200, .inl (fun _ => 0))), ((u28a 3), .inl (c7, 200, .inl (fun _ => 0))), ((u28a 4), .inl (c7, 200, .inl (fun _ => 0))), ((u28a 5), .inl (c7, 200, .inl (fun _ => 0))), ((u28a 6), .inl (u17Z, 200, .inl (fun _ => 0))), ((u28a 7), .inl (c7, 24, .inl (fun _ => 0)))]) (w1 := [(q35, .inr (1, [.long 0, .long 0]))]) hP hD [18] [0, 1, 2, 3, 4, 5, 6, 7, 8, 9, 10, 11, 12, 13, 14, 15, 16, 17] rfl rfl (by decide) (by decide) hk1 hFc hP1 hD1
  generalize H1 = H at hP hS ⊢
  refine W.widen (k := 18) (n := 4106) (by decide) (by decide) ?_
  have hP : va_P D cls_ [(h0, .inr (4, [.ref q7, .ref q13, .ref q24, .null, .null, .int 0, .int 0, .int 0, .int 0, .int 0, .int 0])), (q7, .inl (c7, 64, .inl (fun _ => 0))), (q13, .inr (2, [.ref (u17a 0), .ref (u17a 1), .ref (u17a 2), .ref (u17a 3), .ref (u17a 4), .ref (u17a 5), .int 0])), ((u17a 0), .inl (c7, 200, .inl (fun _ => 0))), ((u17a 1), .inl (c7, 200, .inl (fun _ => 0))), ((u17a 2), .inl (c7, 200, .inl (fun _ => 0))), ((u17a 3), .inl (c7, 200, .inl (fun _ => 0))), ((u17a 4), .inl (u17Z, 200, .inl (fun _ => 0))), ((u17a 5), .inl (c7, 1600, .inl (fun _ => 0))), (q24, .inr (3, [.ref (u28a 0), .ref (u28a 1), .ref (u28a 2), .ref (u28a 3), .ref (u28a 4), .ref (u28a 5), .ref (u28a 6), .ref (u28a 7), .int 0])), ((u28a 0), .inl (c7, 200, .inl (fun _ => 0))), ((u28a 1), .inl (c7, 200, .inl (fun _ => 0))), ((u28a 2), .inl (c7, 200, .inl (fun _ => 0))), ((u28a 3), .inl (c7, 200, .inl (fun _ => 0))), ((u28a 4), .inl (c7, 200, .inl (fun _ => 0))), ((u28a 5), .inl (c7, 200, .inl (fun _ => 0))), ((u28a 6), .inl (u17Z, 200, .inl (fun _ => 0))), ((u28a 7), .inl (c7, 24, .inl (fun _ => 0))), (q35, .inr (1, [.long 0, .long 0]))] H := hP
  have hD : va_D A [(h0, .inr (4, [.ref q7, .ref q13, .ref q24, .null, .null, .int 0, .int 0, .int 0, .int 0, .int 0, .int 0])), (q7, .inl (c7, 64, .inl (fun _ => 0))), (q13, .inr (2, [.ref (u17a 0), .ref (u17a 1), .ref (u17a 2), .ref (u17a 3), .ref (u17a 4), .ref (u17a 5), .int 0])), ((u17a 0), .inl (c7, 200, .inl (fun _ => 0))), ((u17a 1), .inl (c7, 200, .inl (fun _ => 0))), ((u17a 2), .inl (c7, 200, .inl (fun _ => 0))), ((u17a 3), .inl (c7, 200, .inl (fun _ => 0))), ((u17a 4), .inl (u17Z, 200, .inl (fun _ => 0))), ((u17a 5), .inl (c7, 1600, .inl (fun _ => 0))), (q24, .inr (3, [.ref (u28a 0), .ref (u28a 1), .ref (u28a 2), .ref (u28a 3), .ref (u28a 4), .ref (u28a 5), .ref (u28a 6), .ref (u28a 7), .int 0])), ((u28a 0), .inl (c7, 200, .inl (fun _ => 0))), ((u28a 1), .inl (c7, 200, .inl (fun _ => 0))), ((u28a 2), .inl (c7, 200, .inl (fun _ => 0))), ((u28a 3), .inl (c7, 200, .inl (fun _ => 0))), ((u28a 4), .inl (c7, 200, .inl (fun _ => 0))), ((u28a 5), .inl (c7, 200, .inl (fun _ => 0))), ((u28a 6), .inl (u17Z, 200, .inl (fun _ => 0))), ((u28a 7), .inl (c7, 24, .inl (fun _ => 0))), (q35, .inr (1, [.long 0, .long 0]))] := hD
  refine va_putF (D := D) (ci := 4) (v := .ref q35) (ty := .object "DeadlineElevator$Claims") (C := R_E) (T := F_E) (N := 11) hx hb hts in_E t_E t_E_ok n_E hown hK hP hD hS 0 rfl rfl 3 (by decide) (hts _ tb_131) (fun _ h9 => h9) rfl hin rfl (by decide +kernel) rfl rfl (Nat.le_of_ble_eq_true rfl) d_E_init_42 (fun H locs hP hD hS => ?_)
  have hP : va_P D cls_ [(h0, .inr (4, [.ref q7, .ref q13, .ref q24, .ref q35, .null, .int 0, .int 0, .int 0, .int 0, .int 0, .int 0])), (q7, .inl (c7, 64, .inl (fun _ => 0))), (q13, .inr (2, [.ref (u17a 0), .ref (u17a 1), .ref (u17a 2), .ref (u17a 3), .ref (u17a 4), .ref (u17a 5), .int 0])), ((u17a 0), .inl (c7, 200, .inl (fun _ => 0))), ((u17a 1), .inl (c7, 200, .inl (fun _ => 0))), ((u17a 2), .inl (c7, 200, .inl (fun _ => 0))), ((u17a 3), .inl (c7, 200, .inl (fun _ => 0))), ((u17a 4), .inl (u17Z, 200, .inl (fun _ => 0))), ((u17a 5), .inl (c7, 1600, .inl (fun _ => 0))), (q24, .inr (3, [.ref (u28a 0), .ref (u28a 1), .ref (u28a 2), .ref (u28a 3), .ref (u28a 4), .ref (u28a 5), .ref (u28a 6), .ref (u28a 7), .int 0])), ((u28a 0), .inl (c7, 200, .inl (fun _ => 0))), ((u28a 1), .inl (c7, 200, .inl (fun _ => 0))), ((u28a 2), .inl (c7, 200, .inl (fun _ => 0))), ((u28a 3), .inl (c7, 200, .inl (fun _ => 0))), ((u28a 4), .inl (c7, 200, .inl (fun _ => 0))), ((u28a 5), .inl (c7, 200, .inl (fun _ => 0))), ((u28a 6), .inl (u17Z, 200, .inl (fun _ => 0))), ((u28a 7), .inl (c7, 24, .inl (fun _ => 0))), (q35, .inr (1, [.long 0, .long 0]))] H := hP
  have hD : va_D A [(h0, .inr (4, [.ref q7, .ref q13, .ref q24, .ref q35, .null, .int 0, .int 0, .int 0, .int 0, .int 0, .int 0])), (q7, .inl (c7, 64, .inl (fun _ => 0))), (q13, .inr (2, [.ref (u17a 0), .ref (u17a 1), .ref (u17a 2), .ref (u17a 3), .ref (u17a 4), .ref (u17a 5), .int 0])), ((u17a 0), .inl (c7, 200, .inl (fun _ => 0))), ((u17a 1), .inl (c7, 200, .inl (fun _ => 0))), ((u17a 2), .inl (c7, 200, .inl (fun _ => 0))), ((u17a 3), .inl (c7, 200, .inl (fun _ => 0))), ((u17a 4), .inl (u17Z, 200, .inl (fun _ => 0))), ((u17a 5), .inl (c7, 1600, .inl (fun _ => 0))), (q24, .inr (3, [.ref (u28a 0), .ref (u28a 1), .ref (u28a 2), .ref (u28a 3), .ref (u28a 4), .ref (u28a 5), .ref (u28a 6), .ref (u28a 7), .int 0])), ((u28a 0), .inl (c7, 200, .inl (fun _ => 0))), ((u28a 1), .inl (c7, 200, .inl (fun _ => 0))), ((u28a 2), .inl (c7, 200, .inl (fun _ => 0))), ((u28a 3), .inl (c7, 200, .inl (fun _ => 0))), ((u28a 4), .inl (c7, 200, .inl (fun _ => 0))), ((u28a 5), .inl (c7, 200, .inl (fun _ => 0))), ((u28a 6), .inl (u17Z, 200, .inl (fun _ => 0))), ((u28a 7), .inl (c7, 24, .inl (fun _ => 0))), (q35, .inr (1, [.long 0, .long 0]))] := hD
  refine lv_aload_n hx hb d_E_init_45 rfl (lv_at hl 0 rfl) ?_
  refine va_new (ci := 0) (fs := [.int 0, .int 0, .int 0]) (C := R_B) (T := F_B) (N := 3) hx hb hts in_B t_B t_B_ok hown (hts _ tb_109) (hts _ tb_110) (hts _ tb_5) hK hP hD hS hA rfl (fun j hj => by rcases (show j = 0 ∨ j = 1 ∨ j = 2 by omega) with rfl | rfl | rfl <;> rfl) (Nat.le_of_ble_eq_true rfl) (Nat.le_of_ble_eq_true rfl) d_E_init_46 (fun q46 H hP hD hS => ?_)
  refine W.widen (k := 19) (n := 4109) (by decide) (by decide) ?_
  have hP : va_P D cls_ [(h0, .inr (4, [.ref q7, .ref q13, .ref q24, .ref q35, .null, .int 0, .int 0, .int 0, .int 0, .int 0, .int 0])), (q7, .inl (c7, 64, .inl (fun _ => 0))), (q13, .inr (2, [.ref (u17a 0), .ref (u17a 1), .ref (u17a 2), .ref (u17a 3), .ref (u17a 4), .ref (u17a 5), .int 0])), ((u17a 0), .inl (c7, 200, .inl (fun _ => 0))), ((u17a 1), .inl (c7, 200, .inl (fun _ => 0))), ((u17a 2), .inl (c7, 200, .inl (fun _ => 0))), ((u17a 3), .inl (c7, 200, .inl (fun _ => 0))), ((u17a 4), .inl (u17Z, 200, .inl (fun _ => 0))), ((u17a 5), .inl (c7, 1600, .inl (fun _ => 0))), (q24, .inr (3, [.ref (u28a 0), .ref (u28a 1), .ref (u28a 2), .ref (u28a 3), .ref (u28a 4), .ref (u28a 5), .ref (u28a 6), .ref (u28a 7), .int 0])), ((u28a 0), .inl (c7, 200, .inl (fun _ => 0))), ((u28a 1), .inl (c7, 200, .inl (fun _ => 0))), ((u28a 2), .inl (c7, 200, .inl (fun _ => 0))), ((u28a 3), .inl (c7, 200, .inl (fun _ => 0))), ((u28a 4), .inl (c7, 200, .inl (fun _ => 0))), ((u28a 5), .inl (c7, 200, .inl (fun _ => 0))), ((u28a 6), .inl (u17Z, 200, .inl (fun _ => 0))), ((u28a 7), .inl (c7, 24, .inl (fun _ => 0))), (q35, .inr (1, [.long 0, .long 0])), (q46, .inr (0, [.int 0, .int 0, .int 0]))] H := hP
  have hD : va_D A [(h0, .inr (4, [.ref q7, .ref q13, .ref q24, .ref q35, .null, .int 0, .int 0, .int 0, .int 0, .int 0, .int 0])), (q7, .inl (c7, 64, .inl (fun _ => 0))), (q13, .inr (2, [.ref (u17a 0), .ref (u17a 1), .ref (u17a 2), .ref (u17a 3), .ref (u17a 4), .ref (u17a 5), .int 0])), ((u17a 0), .inl (c7, 200, .inl (fun _ => 0))), ((u17a 1), .inl (c7, 200, .inl (fun _ => 0))), ((u17a 2), .inl (c7, 200, .inl (fun _ => 0))), ((u17a 3), .inl (c7, 200, .inl (fun _ => 0))), ((u17a 4), .inl (u17Z, 200, .inl (fun _ => 0))), ((u17a 5), .inl (c7, 1600, .inl (fun _ => 0))), (q24, .inr (3, [.ref (u28a 0), .ref (u28a 1), .ref (u28a 2), .ref (u28a 3), .ref (u28a 4), .ref (u28a 5), .ref (u28a 6), .ref (u28a 7), .int 0])), ((u28a 0), .inl (c7, 200, .inl (fun _ => 0))), ((u28a 1), .inl (c7, 200, .inl (fun _ => 0))), ((u28a 2), .inl (c7, 200, .inl (fun _ => 0))), ((u28a 3), .inl (c7, 200, .inl (fun _ => 0))), ((u28a 4), .inl (c7, 200, .inl (fun _ => 0))), ((u28a 5), .inl (c7, 200, .inl (fun _ => 0))), ((u28a 6), .inl (u17Z, 200, .inl (fun _ => 0))), ((u28a 7), .inl (c7, 24, .inl (fun _ => 0))), (q35, .inr (1, [.long 0, .long 0])), (q46, .inr (0, [.int 0, .int 0, .int 0]))] := hD
  refine lv_dup hx hb d_E_init_49 rfl ?_
  have hPc := hP.sub (ws' := [(q46, .inr (0, [.int 0, .int 0, .int 0]))]) [19] rfl
  have hDc := hD.sub (ws' := [(q46, .inr (0, [.int 0, .int 0, .int 0]))]) [19] (by decide) rfl
  have hKc : va_K D cls_ [] s := hK.sub (tys' := []) [] rfl
  have hFc := va_free (wc := [(q46, .inr (0, [.int 0, .int 0, .int 0]))]) hD hS hA [19] rfl
  refine va_callv (va_runIN (As := []) (rest := [.ref q46, .ref h0]) ⟨hx, hb, hml, hown, hts⟩ (c_B_init l D q46 H.size) ⟨va_cnB 0 hts good_B_init rfl rfl rfl (hN _ tn_111) (hts _ tb_5) hd_B_init ⟨Nat.le_of_ble_eq_true rfl, Nat.le_of_ble_eq_true rfl⟩, rfl, hts _ tb_112⟩ (preI hPc hDc hKc hN) rfl rfl hl.1 rfl (lv_room (Nat.le_of_ble_eq_true rfl)) d_E_init_50 ⟨Nat.le_of_ble_eq_true rfl, Nat.le_of_ble_eq_true rfl⟩) hS (fun q _ h => hFc q h) hFc (fun u50 t H1 locs ht hvm hw hB hz1 hk1 hS => ?_)
  obtain ⟨hP1, hK1, hD1⟩ := hB
  rw [ht] at hP1
  have hK1 := va_K.moved hvm.symm hK1
  obtain ⟨hP, hD⟩ := va_join (wr := [(h0, .inr (4, [.ref q7, .ref q13, .ref q24, .ref q35, .null, .int 0, .int 0, .int 0, .int 0, .int 0, .int 0])), (q7, .inl (c7, 64, .inl (fun _ => 0))), (q13, .inr (2, [.ref (u17a 0), .ref (u17a 1), .ref (u17a 2), .ref (u17a 3), .ref (u17a 4), .ref (u17a 5), .int 0])), ((u17a 0), .inl (c7, 200, .inl (fun _ => 0))), ((u17a 1), .inl (c7, 200, .inl (fun _ => 0))), ((u17a 2), .inl (c7, 200, .inl (fun _ => 0))), ((u17a 3), .inl (c7, 200, .inl (fun _ => 0))), ((u17a 4), .inl (u17Z, 200, .inl (fun _ => 0))), ((u17a 5), .inl (c7, 1600, .inl (fun _ => 0))), (q24, .inr (3, [.ref (u28a 0), .ref (u28a 1), .ref (u28a 2), .ref (u28a 3), .ref (u28a 4), .ref (u28a 5), .ref (u28a 6), .ref (u28a 7), .int 0])), ((u28a 0), .inl (c7, 200, .inl (fun _ => 0))), ((u28a 1), .inl (c7, 200, .inl (fun _ => 0))), ((u28a 2), .inl (c7, 200, .inl (fun _ => 0))), ((u28a 3), .inl (c7, 200, .inl (fun _ => 0))), ((u28a 4), .inl (c7, 200, .inl (fun _ => 0))), ((u28a 5), .inl (c7, 200, .inl (fun _ => 0))), ((u28a 6), .inl (u17Z, 200, .inl (fun _ => 0))), ((u28a 7), .inl (c7, 24, .inl (fun _ => 0))), (q35, .inr (1, [.long 0, .long 0]))]) (w1 := [(q46, .inr (0, [.int 0, .int 0, .int 0]))]) hP hD [19] [0, 1, 2, 3, 4, 5, 6, 7, 8, 9, 10, 11, 12, 13, 14, 15, 16, 17, 18] rfl rfl (by decide) (by decide) hk1 hFc hP1 hD1
  generalize H1 = H at hP hS ⊢
  refine W.widen (k := 19) (n := 4109) (by decide) (by decide) ?_
  have hP : va_P D cls_ [(h0, .inr (4, [.ref q7, .ref q13, .ref q24, .ref q35, .null, .int 0, .int 0, .int 0, .int 0, .int 0, .int 0])), (q7, .inl (c7, 64, .inl (fun _ => 0))), (q13, .inr (2, [.ref (u17a 0), .ref (u17a 1), .ref (u17a 2), .ref (u17a 3), .ref (u17a 4), .ref (u17a 5), .int 0])), ((u17a 0), .inl (c7, 200, .inl (fun _ => 0))), ((u17a 1), .inl (c7, 200, .inl (fun _ => 0))), ((u17a 2), .inl (c7, 200, .inl (fun _ => 0))), ((u17a 3), .inl (c7, 200, .inl (fun _ => 0))), ((u17a 4), .inl (u17Z, 200, .inl (fun _ => 0))), ((u17a 5), .inl (c7, 1600, .inl (fun _ => 0))), (q24, .inr (3, [.ref (u28a 0), .ref (u28a 1), .ref (u28a 2), .ref (u28a 3), .ref (u28a 4), .ref (u28a 5), .ref (u28a 6), .ref (u28a 7), .int 0])), ((u28a 0), .inl (c7, 200, .inl (fun _ => 0))), ((u28a 1), .inl (c7, 200, .inl (fun _ => 0))), ((u28a 2), .inl (c7, 200, .inl (fun _ => 0))), ((u28a 3), .inl (c7, 200, .inl (fun _ => 0))), ((u28a 4), .inl (c7, 200, .inl (fun _ => 0))), ((u28a 5), .inl (c7, 200, .inl (fun _ => 0))), ((u28a 6), .inl (u17Z, 200, .inl (fun _ => 0))), ((u28a 7), .inl (c7, 24, .inl (fun _ => 0))), (q35, .inr (1, [.long 0, .long 0])), (q46, .inr (0, [.int 0, .int 0, .int 0]))] H := hP
  have hD : va_D A [(h0, .inr (4, [.ref q7, .ref q13, .ref q24, .ref q35, .null, .int 0, .int 0, .int 0, .int 0, .int 0, .int 0])), (q7, .inl (c7, 64, .inl (fun _ => 0))), (q13, .inr (2, [.ref (u17a 0), .ref (u17a 1), .ref (u17a 2), .ref (u17a 3), .ref (u17a 4), .ref (u17a 5), .int 0])), ((u17a 0), .inl (c7, 200, .inl (fun _ => 0))), ((u17a 1), .inl (c7, 200, .inl (fun _ => 0))), ((u17a 2), .inl (c7, 200, .inl (fun _ => 0))), ((u17a 3), .inl (c7, 200, .inl (fun _ => 0))), ((u17a 4), .inl (u17Z, 200, .inl (fun _ => 0))), ((u17a 5), .inl (c7, 1600, .inl (fun _ => 0))), (q24, .inr (3, [.ref (u28a 0), .ref (u28a 1), .ref (u28a 2), .ref (u28a 3), .ref (u28a 4), .ref (u28a 5), .ref (u28a 6), .ref (u28a 7), .int 0])), ((u28a 0), .inl (c7, 200, .inl (fun _ => 0))), ((u28a 1), .inl (c7, 200, .inl (fun _ => 0))), ((u28a 2), .inl (c7, 200, .inl (fun _ => 0))), ((u28a 3), .inl (c7, 200, .inl (fun _ => 0))), ((u28a 4), .inl (c7, 200, .inl (fun _ => 0))), ((u28a 5), .inl (c7, 200, .inl (fun _ => 0))), ((u28a 6), .inl (u17Z, 200, .inl (fun _ => 0))), ((u28a 7), .inl (c7, 24, .inl (fun _ => 0))), (q35, .inr (1, [.long 0, .long 0])), (q46, .inr (0, [.int 0, .int 0, .int 0]))] := hD
  refine va_putF (D := D) (ci := 4) (v := .ref q46) (ty := .object "DeadlineElevator$Batch") (C := R_E) (T := F_E) (N := 11) hx hb hts in_E t_E t_E_ok n_E hown hK hP hD hS 0 rfl rfl 4 (by decide) (hts _ tb_132) (fun _ h9 => h9) rfl hin rfl (by decide +kernel) rfl rfl (Nat.le_of_ble_eq_true rfl) d_E_init_53 (fun H locs hP hD hS => ?_)
  have hP : va_P D cls_ [(h0, .inr (4, [.ref q7, .ref q13, .ref q24, .ref q35, .ref q46, .int 0, .int 0, .int 0, .int 0, .int 0, .int 0])), (q7, .inl (c7, 64, .inl (fun _ => 0))), (q13, .inr (2, [.ref (u17a 0), .ref (u17a 1), .ref (u17a 2), .ref (u17a 3), .ref (u17a 4), .ref (u17a 5), .int 0])), ((u17a 0), .inl (c7, 200, .inl (fun _ => 0))), ((u17a 1), .inl (c7, 200, .inl (fun _ => 0))), ((u17a 2), .inl (c7, 200, .inl (fun _ => 0))), ((u17a 3), .inl (c7, 200, .inl (fun _ => 0))), ((u17a 4), .inl (u17Z, 200, .inl (fun _ => 0))), ((u17a 5), .inl (c7, 1600, .inl (fun _ => 0))), (q24, .inr (3, [.ref (u28a 0), .ref (u28a 1), .ref (u28a 2), .ref (u28a 3), .ref (u28a 4), .ref (u28a 5), .ref (u28a 6), .ref (u28a 7), .int 0])), ((u28a 0), .inl (c7, 200, .inl (fun _ => 0))), ((u28a 1), .inl (c7, 200, .inl (fun _ => 0))), ((u28a 2), .inl (c7, 200, .inl (fun _ => 0))), ((u28a 3), .inl (c7, 200, .inl (fun _ => 0))), ((u28a 4), .inl (c7, 200, .inl (fun _ => 0))), ((u28a 5), .inl (c7, 200, .inl (fun _ => 0))), ((u28a 6), .inl (u17Z, 200, .inl (fun _ => 0))), ((u28a 7), .inl (c7, 24, .inl (fun _ => 0))), (q35, .inr (1, [.long 0, .long 0])), (q46, .inr (0, [.int 0, .int 0, .int 0]))] H := hP
  have hD : va_D A [(h0, .inr (4, [.ref q7, .ref q13, .ref q24, .ref q35, .ref q46, .int 0, .int 0, .int 0, .int 0, .int 0, .int 0])), (q7, .inl (c7, 64, .inl (fun _ => 0))), (q13, .inr (2, [.ref (u17a 0), .ref (u17a 1), .ref (u17a 2), .ref (u17a 3), .ref (u17a 4), .ref (u17a 5), .int 0])), ((u17a 0), .inl (c7, 200, .inl (fun _ => 0))), ((u17a 1), .inl (c7, 200, .inl (fun _ => 0))), ((u17a 2), .inl (c7, 200, .inl (fun _ => 0))), ((u17a 3), .inl (c7, 200, .inl (fun _ => 0))), ((u17a 4), .inl (u17Z, 200, .inl (fun _ => 0))), ((u17a 5), .inl (c7, 1600, .inl (fun _ => 0))), (q24, .inr (3, [.ref (u28a 0), .ref (u28a 1), .ref (u28a 2), .ref (u28a 3), .ref (u28a 4), .ref (u28a 5), .ref (u28a 6), .ref (u28a 7), .int 0])), ((u28a 0), .inl (c7, 200, .inl (fun _ => 0))), ((u28a 1), .inl (c7, 200, .inl (fun _ => 0))), ((u28a 2), .inl (c7, 200, .inl (fun _ => 0))), ((u28a 3), .inl (c7, 200, .inl (fun _ => 0))), ((u28a 4), .inl (c7, 200, .inl (fun _ => 0))), ((u28a 5), .inl (c7, 200, .inl (fun _ => 0))), ((u28a 6), .inl (u17Z, 200, .inl (fun _ => 0))), ((u28a 7), .inl (c7, 24, .inl (fun _ => 0))), (q35, .inr (1, [.long 0, .long 0])), (q46, .inr (0, [.int 0, .int 0, .int 0]))] := hD
  refine lv_aload_n hx hb d_E_init_56 rfl (lv_at hl 0 rfl) ?_
  refine lv_bipush (v := 50) hx hb d_E_init_57 (by decide) ?_
  refine va_put (D := D) (ci := 4) (v := .int 50) (ty := .int) (C := R_E) (T := F_E) (N := 11) hx hb hts in_E t_E t_E_ok n_E hown hK hP hD hS 0 rfl rfl 5 (by decide) (hts _ tb_133) (fun _ h9 => h9) rfl (by decide +kernel) rfl rfl (Nat.le_of_ble_eq_true rfl) d_E_init_59 (fun H locs hP hD hS => ?_)
  have hP : va_P D cls_ [(h0, .inr (4, [.ref q7, .ref q13, .ref q24, .ref q35, .ref q46, .int 50, .int 0, .int 0, .int 0, .int 0, .int 0])), (q7, .inl (c7, 64, .inl (fun _ => 0))), (q13, .inr (2, [.ref (u17a 0), .ref (u17a 1), .ref (u17a 2), .ref (u17a 3), .ref (u17a 4), .ref (u17a 5), .int 0])), ((u17a 0), .inl (c7, 200, .inl (fun _ => 0))), ((u17a 1), .inl (c7, 200, .inl (fun _ => 0))), ((u17a 2), .inl (c7, 200, .inl (fun _ => 0))), ((u17a 3), .inl (c7, 200, .inl (fun _ => 0))), ((u17a 4), .inl (u17Z, 200, .inl (fun _ => 0))), ((u17a 5), .inl (c7, 1600, .inl (fun _ => 0))), (q24, .inr (3, [.ref (u28a 0), .ref (u28a 1), .ref (u28a 2), .ref (u28a 3), .ref (u28a 4), .ref (u28a 5), .ref (u28a 6), .ref (u28a 7), .int 0])), ((u28a 0), .inl (c7, 200, .inl (fun _ => 0))), ((u28a 1), .inl (c7, 200, .inl (fun _ => 0))), ((u28a 2), .inl (c7, 200, .inl (fun _ => 0))), ((u28a 3), .inl (c7, 200, .inl (fun _ => 0))), ((u28a 4), .inl (c7, 200, .inl (fun _ => 0))), ((u28a 5), .inl (c7, 200, .inl (fun _ => 0))), ((u28a 6), .inl (u17Z, 200, .inl (fun _ => 0))), ((u28a 7), .inl (c7, 24, .inl (fun _ => 0))), (q35, .inr (1, [.long 0, .long 0])), (q46, .inr (0, [.int 0, .int 0, .int 0]))] H := hP
  have hD : va_D A [(h0, .inr (4, [.ref q7, .ref q13, .ref q24, .ref q35, .ref q46, .int 50, .int 0, .int 0, .int 0, .int 0, .int 0])), (q7, .inl (c7, 64, .inl (fun _ => 0))), (q13, .inr (2, [.ref (u17a 0), .ref (u17a 1), .ref (u17a 2), .ref (u17a 3), .ref (u17a 4), .ref (u17a 5), .int 0])), ((u17a 0), .inl (c7, 200, .inl (fun _ => 0))), ((u17a 1), .inl (c7, 200, .inl (fun _ => 0))), ((u17a 2), .inl (c7, 200, .inl (fun _ => 0))), ((u17a 3), .inl (c7, 200, .inl (fun _ => 0))), ((u17a 4), .inl (u17Z, 200, .inl (fun _ => 0))), ((u17a 5), .inl (c7, 1600, .inl (fun _ => 0))), (q24, .inr (3, [.ref (u28a 0), .ref (u28a 1), .ref (u28a 2), .ref (u28a 3), .ref (u28a 4), .ref (u28a 5), .ref (u28a 6), .ref (u28a 7), .int 0])), ((u28a 0), .inl (c7, 200, .inl (fun _ => 0))), ((u28a 1), .inl (c7, 200, .inl (fun _ => 0))), ((u28a 2), .inl (c7, 200, .inl (fun _ => 0))), ((u28a 3), .inl (c7, 200, .inl (fun _ => 0))), ((u28a 4), .inl (c7, 200, .inl (fun _ => 0))), ((u28a 5), .inl (c7, 200, .inl (fun _ => 0))), ((u28a 6), .inl (u17Z, 200, .inl (fun _ => 0))), ((u28a 7), .inl (c7, 24, .inl (fun _ => 0))), (q35, .inr (1, [.long 0, .long 0])), (q46, .inr (0, [.int 0, .int 0, .int 0]))] := hD
  refine lv_aload_n hx hb d_E_init_62 rfl (lv_at hl 0 rfl) ?_
  refine lv_sipush (v := 500) hx hb d_E_init_63 (by decide) ?_
  refine va_put (D := D) (ci := 4) (v := .int 500) (ty := .int) (C := R_E) (T := F_E) (N := 11) hx hb hts in_E t_E t_E_ok n_E hown hK hP hD hS 0 rfl rfl 6 (by decide) (hts _ tb_134) (fun _ h9 => h9) rfl (by decide +kernel) rfl rfl (Nat.le_of_ble_eq_true rfl) d_E_init_66 (fun H locs hP hD hS => ?_)
  have hP : va_P D cls_ [(h0, .inr (4, [.ref q7, .ref q13, .ref q24, .ref q35, .ref q46, .int 50, .int 500, .int 0, .int 0, .int 0, .int 0])), (q7, .inl (c7, 64, .inl (fun _ => 0))), (q13, .inr (2, [.ref (u17a 0), .ref (u17a 1), .ref (u17a 2), .ref (u17a 3), .ref (u17a 4), .ref (u17a 5), .int 0])), ((u17a 0), .inl (c7, 200, .inl (fun _ => 0))), ((u17a 1), .inl (c7, 200, .inl (fun _ => 0))), ((u17a 2), .inl (c7, 200, .inl (fun _ => 0))), ((u17a 3), .inl (c7, 200, .inl (fun _ => 0))), ((u17a 4), .inl (u17Z, 200, .inl (fun _ => 0))), ((u17a 5), .inl (c7, 1600, .inl (fun _ => 0))), (q24, .inr (3, [.ref (u28a 0), .ref (u28a 1), .ref (u28a 2), .ref (u28a 3), .ref (u28a 4), .ref (u28a 5), .ref (u28a 6), .ref (u28a 7), .int 0])), ((u28a 0), .inl (c7, 200, .inl (fun _ => 0))), ((u28a 1), .inl (c7, 200, .inl (fun _ => 0))), ((u28a 2), .inl (c7, 200, .inl (fun _ => 0))), ((u28a 3), .inl (c7, 200, .inl (fun _ => 0))), ((u28a 4), .inl (c7, 200, .inl (fun _ => 0))), ((u28a 5), .inl (c7, 200, .inl (fun _ => 0))), ((u28a 6), .inl (u17Z, 200, .inl (fun _ => 0))), ((u28a 7), .inl (c7, 24, .inl (fun _ => 0))), (q35, .inr (1, [.long 0, .long 0])), (q46, .inr (0, [.int 0, .int 0, .int 0]))] H := hP
  have hD : va_D A [(h0, .inr (4, [.ref q7, .ref q13, .ref q24, .ref q35, .ref q46, .int 50, .int 500, .int 0, .int 0, .int 0, .int 0])), (q7, .inl (c7, 64, .inl (fun _ => 0))), (q13, .inr (2, [.ref (u17a 0), .ref (u17a 1), .ref (u17a 2), .ref (u17a 3), .ref (u17a 4), .ref (u17a 5), .int 0])), ((u17a 0), .inl (c7, 200, .inl (fun _ => 0))), ((u17a 1), .inl (c7, 200, .inl (fun _ => 0))), ((u17a 2), .inl (c7, 200, .inl (fun _ => 0))), ((u17a 3), .inl (c7, 200, .inl (fun _ => 0))), ((u17a 4), .inl (u17Z, 200, .inl (fun _ => 0))), ((u17a 5), .inl (c7, 1600, .inl (fun _ => 0))), (q24, .inr (3, [.ref (u28a 0), .ref (u28a 1), .ref (u28a 2), .ref (u28a 3), .ref (u28a 4), .ref (u28a 5), .ref (u28a 6), .ref (u28a 7), .int 0])), ((u28a 0), .inl (c7, 200, .inl (fun _ => 0))), ((u28a 1), .inl (c7, 200, .inl (fun _ => 0))), ((u28a 2), .inl (c7, 200, .inl (fun _ => 0))), ((u28a 3), .inl (c7, 200, .inl (fun _ => 0))), ((u28a 4), .inl (c7, 200, .inl (fun _ => 0))), ((u28a 5), .inl (c7, 200, .inl (fun _ => 0))), ((u28a 6), .inl (u17Z, 200, .inl (fun _ => 0))), ((u28a 7), .inl (c7, 24, .inl (fun _ => 0))), (q35, .inr (1, [.long 0, .long 0])), (q46, .inr (0, [.int 0, .int 0, .int 0]))] := hD
  refine lv_aload_n hx hb d_E_init_69 rfl (lv_at hl 0 rfl) ?_
  refine lv_iconst (v := 0) hx hb d_E_init_70 (by decide) ?_
  refine va_put (D := D) (ci := 4) (v := .int 0) (ty := .int) (C := R_E) (T := F_E) (N := 11) hx hb hts in_E t_E t_E_ok n_E hown hK hP hD hS 0 rfl rfl 7 (by decide) (hts _ tb_135) (fun _ h9 => h9) rfl (by decide +kernel) rfl rfl (Nat.le_of_ble_eq_true rfl) d_E_init_71 (fun H locs hP hD hS => ?_)
  have hP : va_P D cls_ [(h0, .inr (4, [.ref q7, .ref q13, .ref q24, .ref q35, .ref q46, .int 50, .int 500, .int 0, .int 0, .int 0, .int 0])), (q7, .inl (c7, 64, .inl (fun _ => 0))), (q13, .inr (2, [.ref (u17a 0), .ref (u17a 1), .ref (u17a 2), .ref (u17a 3), .ref (u17a 4), .ref (u17a 5), .int 0])), ((u17a 0), .inl (c7, 200, .inl (fun _ => 0))), ((u17a 1), .inl (c7, 200, .inl (fun _ => 0))), ((u17a 2), .inl (c7, 200, .inl (fun _ => 0))), ((u17a 3), .inl (c7, 200, .inl (fun _ => 0))), ((u17a 4), .inl (u17Z, 200, .inl (fun _ => 0))), ((u17a 5), .inl (c7, 1600, .inl (fun _ => 0))), (q24, .inr (3, [.ref (u28a 0), .ref (u28a 1), .ref (u28a 2), .ref (u28a 3), .ref (u28a 4), .ref (u28a 5), .ref (u28a 6), .ref (u28a 7), .int 0])), ((u28a 0), .inl (c7, 200, .inl (fun _ => 0))), ((u28a 1), .inl (c7, 200, .inl (fun _ => 0))), ((u28a 2), .inl (c7, 200, .inl (fun _ => 0))), ((u28a 3), .inl (c7, 200, .inl (fun _ => 0))), ((u28a 4), .inl (c7, 200, .inl (fun _ => 0))), ((u28a 5), .inl (c7, 200, .inl (fun _ => 0))), ((u28a 6), .inl (u17Z, 200, .inl (fun _ => 0))), ((u28a 7), .inl (c7, 24, .inl (fun _ => 0))), (q35, .inr (1, [.long 0, .long 0])), (q46, .inr (0, [.int 0, .int 0, .int 0]))] H := hP
  have hD : va_D A [(h0, .inr (4, [.ref q7, .ref q13, .ref q24, .ref q35, .ref q46, .int 50, .int 500, .int 0, .int 0, .int 0, .int 0])), (q7, .inl (c7, 64, .inl (fun _ => 0))), (q13, .inr (2, [.ref (u17a 0), .ref (u17a 1), .ref (u17a 2), .ref (u17a 3), .ref (u17a 4), .ref (u17a 5), .int 0])), ((u17a 0), .inl (c7, 200, .inl (fun _ => 0))), ((u17a 1), .inl (c7, 200, .inl (fun _ => 0))), ((u17a 2), .inl (c7, 200, .inl (fun _ => 0))), ((u17a 3), .inl (c7, 200, .inl (fun _ => 0))), ((u17a 4), .inl (u17Z, 200, .inl (fun _ => 0))), ((u17a 5), .inl (c7, 1600, .inl (fun _ => 0))), (q24, .inr (3, [.ref (u28a 0), .ref (u28a 1), .ref (u28a 2), .ref (u28a 3), .ref (u28a 4), .ref (u28a 5), .ref (u28a 6), .ref (u28a 7), .int 0])), ((u28a 0), .inl (c7, 200, .inl (fun _ => 0))), ((u28a 1), .inl (c7, 200, .inl (fun _ => 0))), ((u28a 2), .inl (c7, 200, .inl (fun _ => 0))), ((u28a 3), .inl (c7, 200, .inl (fun _ => 0))), ((u28a 4), .inl (c7, 200, .inl (fun _ => 0))), ((u28a 5), .inl (c7, 200, .inl (fun _ => 0))), ((u28a 6), .inl (u17Z, 200, .inl (fun _ => 0))), ((u28a 7), .inl (c7, 24, .inl (fun _ => 0))), (q35, .inr (1, [.long 0, .long 0])), (q46, .inr (0, [.int 0, .int 0, .int 0]))] := hD
  refine lv_aload_n hx hb d_E_init_74 rfl (lv_at hl 0 rfl) ?_
  refine lv_iconst (v := 0) hx hb d_E_init_75 (by decide) ?_
  refine va_put (D := D) (ci := 4) (v := .int 0) (ty := .int) (C := R_E) (T := F_E) (N := 11) hx hb hts in_E t_E t_E_ok n_E hown hK hP hD hS 0 rfl rfl 8 (by decide) (hts _ tb_136) (fun _ h9 => h9) rfl (by decide +kernel) rfl rfl (Nat.le_of_ble_eq_true rfl) d_E_init_76 (fun H locs hP hD hS => ?_)
  have hP : va_P D cls_ [(h0, .inr (4, [.ref q7, .ref q13, .ref q24, .ref q35, .ref q46, .int 50, .int 500, .int 0, .int 0, .int 0, .int 0])), (q7, .inl (c7, 64, .inl (fun _ => 0))), (q13, .inr (2, [.ref (u17a 0), .ref (u17a 1), .ref (u17a 2), .ref (u17a 3), .ref (u17a 4), .ref (u17a 5), .int 0])), ((u17a 0), .inl (c7, 200, .inl (fun _ => 0))), ((u17a 1), .inl (c7, 200, .inl (fun _ => 0))), ((u17a 2), .inl (c7, 200, .inl (fun _ => 0))), ((u17a 3), .inl (c7, 200, .inl (fun _ => 0))), ((u17a 4), .inl (u17Z, 200, .inl (fun _ => 0))), ((u17a 5), .inl (c7, 1600, .inl (fun _ => 0))), (q24, .inr (3, [.ref (u28a 0), .ref (u28a 1), .ref (u28a 2), .ref (u28a 3), .ref (u28a 4), .ref (u28a 5), .ref (u28a 6), .ref (u28a 7), .int 0])), ((u28a 0), .inl (c7, 200, .inl (fun _ => 0))), ((u28a 1), .inl (c7, 200, .inl (fun _ => 0))), ((u28a 2), .inl (c7, 200, .inl (fun _ => 0))), ((u28a 3), .inl (c7, 200, .inl (fun _ => 0))), ((u28a 4), .inl (c7, 200, .inl (fun _ => 0))), ((u28a 5), .inl (c7, 200, .inl (fun _ => 0))), ((u28a 6), .inl (u17Z, 200, .inl (fun _ => 0))), ((u28a 7), .inl (c7, 24, .inl (fun _ => 0))), (q35, .inr (1, [.long 0, .long 0])), (q46, .inr (0, [.int 0, .int 0, .int 0]))] H := hP
  have hD : va_D A [(h0, .inr (4, [.ref q7, .ref q13, .ref q24, .ref q35, .ref q46, .int 50, .int 500, .int 0, .int 0, .int 0, .int 0])), (q7, .inl (c7, 64, .inl (fun _ => 0))), (q13, .inr (2, [.ref (u17a 0), .ref (u17a 1), .ref (u17a 2), .ref (u17a 3), .ref (u17a 4), .ref (u17a 5), .int 0])), ((u17a 0), .inl (c7, 200, .inl (fun _ => 0))), ((u17a 1), .inl (c7, 200, .inl (fun _ => 0))), ((u17a 2), .inl (c7, 200, .inl (fun _ => 0))), ((u17a 3), .inl (c7, 200, .inl (fun _ => 0))), ((u17a 4), .inl (u17Z, 200, .inl (fun _ => 0))), ((u17a 5), .inl (c7, 1600, .inl (fun _ => 0))), (q24, .inr (3, [.ref (u28a 0), .ref (u28a 1), .ref (u28a 2), .ref (u28a 3), .ref (u28a 4), .ref (u28a 5), .ref (u28a 6), .ref (u28a 7), .int 0])), ((u28a 0), .inl (c7, 200, .inl (fun _ => 0))), ((u28a 1), .inl (c7, 200, .inl (fun _ => 0))), ((u28a 2), .inl (c7, 200, .inl (fun _ => 0))), ((u28a 3), .inl (c7, 200, .inl (fun _ => 0))), ((u28a 4), .inl (c7, 200, .inl (fun _ => 0))), ((u28a 5), .inl (c7, 200, .inl (fun _ => 0))), ((u28a 6), .inl (u17Z, 200, .inl (fun _ => 0))), ((u28a 7), .inl (c7, 24, .inl (fun _ => 0))), (q35, .inr (1, [.long 0, .long 0])), (q46, .inr (0, [.int 0, .int 0, .int 0]))] := hD
  refine lv_aload_n hx hb d_E_init_79 rfl (lv_at hl 0 rfl) ?_
  refine lv_iconst (v := 0) hx hb d_E_init_80 (by decide) ?_
  refine va_put (D := D) (ci := 4) (v := .int 0) (ty := .int) (C := R_E) (T := F_E) (N := 11) hx hb hts in_E t_E t_E_ok n_E hown hK hP hD hS 0 rfl rfl 9 (by decide) (hts _ tb_137) (fun _ h9 => h9) rfl (by decide +kernel) rfl rfl (Nat.le_of_ble_eq_true rfl) d_E_init_81 (fun H locs hP hD hS => ?_)
  have hP : va_P D cls_ [(h0, .inr (4, [.ref q7, .ref q13, .ref q24, .ref q35, .ref q46, .int 50, .int 500, .int 0, .int 0, .int 0, .int 0])), (q7, .inl (c7, 64, .inl (fun _ => 0))), (q13, .inr (2, [.ref (u17a 0), .ref (u17a 1), .ref (u17a 2), .ref (u17a 3), .ref (u17a 4), .ref (u17a 5), .int 0])), ((u17a 0), .inl (c7, 200, .inl (fun _ => 0))), ((u17a 1), .inl (c7, 200, .inl (fun _ => 0))), ((u17a 2), .inl (c7, 200, .inl (fun _ => 0))), ((u17a 3), .inl (c7, 200, .inl (fun _ => 0))), ((u17a 4), .inl (u17Z, 200, .inl (fun _ => 0))), ((u17a 5), .inl (c7, 1600, .inl (fun _ => 0))), (q24, .inr (3, [.ref (u28a 0), .ref (u28a 1), .ref (u28a 2), .ref (u28a 3), .ref (u28a 4), .ref (u28a 5), .ref (u28a 6), .ref (u28a 7), .int 0])), ((u28a 0), .inl (c7, 200, .inl (fun _ => 0))), ((u28a 1), .inl (c7, 200, .inl (fun _ => 0))), ((u28a 2), .inl (c7, 200, .inl (fun _ => 0))), ((u28a 3), .inl (c7, 200, .inl (fun _ => 0))), ((u28a 4), .inl (c7, 200, .inl (fun _ => 0))), ((u28a 5), .inl (c7, 200, .inl (fun _ => 0))), ((u28a 6), .inl (u17Z, 200, .inl (fun _ => 0))), ((u28a 7), .inl (c7, 24, .inl (fun _ => 0))), (q35, .inr (1, [.long 0, .long 0])), (q46, .inr (0, [.int 0, .int 0, .int 0]))] H := hP
  have hD : va_D A [(h0, .inr (4, [.ref q7, .ref q13, .ref q24, .ref q35, .ref q46, .int 50, .int 500, .int 0, .int 0, .int 0, .int 0])), (q7, .inl (c7, 64, .inl (fun _ => 0))), (q13, .inr (2, [.ref (u17a 0), .ref (u17a 1), .ref (u17a 2), .ref (u17a 3), .ref (u17a 4), .ref (u17a 5), .int 0])), ((u17a 0), .inl (c7, 200, .inl (fun _ => 0))), ((u17a 1), .inl (c7, 200, .inl (fun _ => 0))), ((u17a 2), .inl (c7, 200, .inl (fun _ => 0))), ((u17a 3), .inl (c7, 200, .inl (fun _ => 0))), ((u17a 4), .inl (u17Z, 200, .inl (fun _ => 0))), ((u17a 5), .inl (c7, 1600, .inl (fun _ => 0))), (q24, .inr (3, [.ref (u28a 0), .ref (u28a 1), .ref (u28a 2), .ref (u28a 3), .ref (u28a 4), .ref (u28a 5), .ref (u28a 6), .ref (u28a 7), .int 0])), ((u28a 0), .inl (c7, 200, .inl (fun _ => 0))), ((u28a 1), .inl (c7, 200, .inl (fun _ => 0))), ((u28a 2), .inl (c7, 200, .inl (fun _ => 0))), ((u28a 3), .inl (c7, 200, .inl (fun _ => 0))), ((u28a 4), .inl (c7, 200, .inl (fun _ => 0))), ((u28a 5), .inl (c7, 200, .inl (fun _ => 0))), ((u28a 6), .inl (u17Z, 200, .inl (fun _ => 0))), ((u28a 7), .inl (c7, 24, .inl (fun _ => 0))), (q35, .inr (1, [.long 0, .long 0])), (q46, .inr (0, [.int 0, .int 0, .int 0]))] := hD
  refine lv_aload_n hx hb d_E_init_84 rfl (lv_at hl 0 rfl) ?_
  refine lv_iconst (v := (-1)) hx hb d_E_init_85 (by decide) ?_
  refine va_put (D := D) (ci := 4) (v := .int (-1)) (ty := .int) (C := R_E) (T := F_E) (N := 11) hx hb hts in_E t_E t_E_ok n_E hown hK hP hD hS 0 rfl rfl 10 (by decide) (hts _ tb_138) (fun _ h9 => h9) rfl (by decide +kernel) rfl rfl (Nat.le_of_ble_eq_true rfl) d_E_init_86 (fun H locs hP hD hS => ?_)
  have hP : va_P D cls_ [(h0, .inr (4, [.ref q7, .ref q13, .ref q24, .ref q35, .ref q46, .int 50, .int 500, .int 0, .int 0, .int 0, .int (-1)])), (q7, .inl (c7, 64, .inl (fun _ => 0))), (q13, .inr (2, [.ref (u17a 0), .ref (u17a 1), .ref (u17a 2), .ref (u17a 3), .ref (u17a 4), .ref (u17a 5), .int 0])), ((u17a 0), .inl (c7, 200, .inl (fun _ => 0))), ((u17a 1), .inl (c7, 200, .inl (fun _ => 0))), ((u17a 2), .inl (c7, 200, .inl (fun _ => 0))), ((u17a 3), .inl (c7, 200, .inl (fun _ => 0))), ((u17a 4), .inl (u17Z, 200, .inl (fun _ => 0))), ((u17a 5), .inl (c7, 1600, .inl (fun _ => 0))), (q24, .inr (3, [.ref (u28a 0), .ref (u28a 1), .ref (u28a 2), .ref (u28a 3), .ref (u28a 4), .ref (u28a 5), .ref (u28a 6), .ref (u28a 7), .int 0])), ((u28a 0), .inl (c7, 200, .inl (fun _ => 0))), ((u28a 1), .inl (c7, 200, .inl (fun _ => 0))), ((u28a 2), .inl (c7, 200, .inl (fun _ => 0))), ((u28a 3), .inl (c7, 200, .inl (fun _ => 0))), ((u28a 4), .inl (c7, 200, .inl (fun _ => 0))), ((u28a 5), .inl (c7, 200, .inl (fun _ => 0))), ((u28a 6), .inl (u17Z, 200, .inl (fun _ => 0))), ((u28a 7), .inl (c7, 24, .inl (fun _ => 0))), (q35, .inr (1, [.long 0, .long 0])), (q46, .inr (0, [.int 0, .int 0, .int 0]))] H := hP
  have hD : va_D A [(h0, .inr (4, [.ref q7, .ref q13, .ref q24, .ref q35, .ref q46, .int 50, .int 500, .int 0, .int 0, .int 0, .int (-1)])), (q7, .inl (c7, 64, .inl (fun _ => 0))), (q13, .inr (2, [.ref (u17a 0), .ref (u17a 1), .ref (u17a 2), .ref (u17a 3), .ref (u17a 4), .ref (u17a 5), .int 0])), ((u17a 0), .inl (c7, 200, .inl (fun _ => 0))), ((u17a 1), .inl (c7, 200, .inl (fun _ => 0))), ((u17a 2), .inl (c7, 200, .inl (fun _ => 0))), ((u17a 3), .inl (c7, 200, .inl (fun _ => 0))), ((u17a 4), .inl (u17Z, 200, .inl (fun _ => 0))), ((u17a 5), .inl (c7, 1600, .inl (fun _ => 0))), (q24, .inr (3, [.ref (u28a 0), .ref (u28a 1), .ref (u28a 2), .ref (u28a 3), .ref (u28a 4), .ref (u28a 5), .ref (u28a 6), .ref (u28a 7), .int 0])), ((u28a 0), .inl (c7, 200, .inl (fun _ => 0))), ((u28a 1), .inl (c7, 200, .inl (fun _ => 0))), ((u28a 2), .inl (c7, 200, .inl (fun _ => 0))), ((u28a 3), .inl (c7, 200, .inl (fun _ => 0))), ((u28a 4), .inl (c7, 200, .inl (fun _ => 0))), ((u28a 5), .inl (c7, 200, .inl (fun _ => 0))), ((u28a 6), .inl (u17Z, 200, .inl (fun _ => 0))), ((u28a 7), .inl (c7, 24, .inl (fun _ => 0))), (q35, .inr (1, [.long 0, .long 0])), (q46, .inr (0, [.int 0, .int 0, .int 0]))] := hD
  have hP9 := hP.sub (ws' := [(h0, .inr (4, [.ref q7, .ref q13, .ref q24, .ref q35, .ref q46, .int 50, .int 500, .int 0, .int 0, .int 0, .int (-1)])), (q7, .inl (c7, 64, .inl (fun _ => 0))), (q13, .inr (2, [.ref (u17a 0), .ref (u17a 1), .ref (u17a 2), .ref (u17a 3), .ref (u17a 4), .ref (u17a 5), .int 0])), ((u17a 0), .inl (c7, 200, .inl (fun _ => 0))), ((u17a 1), .inl (c7, 200, .inl (fun _ => 0))), ((u17a 2), .inl (c7, 200, .inl (fun _ => 0))), ((u17a 3), .inl (c7, 200, .inl (fun _ => 0))), ((u17a 4), .inl (u17Z, 200, .inl (fun _ => 0))), ((u17a 5), .inl (c7, 1600, .inl (fun _ => 0))), (q24, .inr (3, [.ref (u28a 0), .ref (u28a 1), .ref (u28a 2), .ref (u28a 3), .ref (u28a 4), .ref (u28a 5), .ref (u28a 6), .ref (u28a 7), .int 0])), ((u28a 0), .inl (c7, 200, .inl (fun _ => 0))), ((u28a 1), .inl (c7, 200, .inl (fun _ => 0))), ((u28a 2), .inl (c7, 200, .inl (fun _ => 0))), ((u28a 3), .inl (c7, 200, .inl (fun _ => 0))), ((u28a 4), .inl (c7, 200, .inl (fun _ => 0))), ((u28a 5), .inl (c7, 200, .inl (fun _ => 0))), ((u28a 6), .inl (u17Z, 200, .inl (fun _ => 0))), ((u28a 7), .inl (c7, 24, .inl (fun _ => 0))), (q35, .inr (1, [.long 0, .long 0])), (q46, .inr (0, [.int 0, .int 0, .int 0]))]) [0, 1, 2, 3, 4, 5, 6, 7, 8, 9, 10, 11, 12, 13, 14, 15, 16, 17, 18, 19] rfl
  have hD9 := hD.sub (ws' := [(h0, .inr (4, [.ref q7, .ref q13, .ref q24, .ref q35, .ref q46, .int 50, .int 500, .int 0, .int 0, .int 0, .int (-1)])), (q7, .inl (c7, 64, .inl (fun _ => 0))), (q13, .inr (2, [.ref (u17a 0), .ref (u17a 1), .ref (u17a 2), .ref (u17a 3), .ref (u17a 4), .ref (u17a 5), .int 0])), ((u17a 0), .inl (c7, 200, .inl (fun _ => 0))), ((u17a 1), .inl (c7, 200, .inl (fun _ => 0))), ((u17a 2), .inl (c7, 200, .inl (fun _ => 0))), ((u17a 3), .inl (c7, 200, .inl (fun _ => 0))), ((u17a 4), .inl (u17Z, 200, .inl (fun _ => 0))), ((u17a 5), .inl (c7, 1600, .inl (fun _ => 0))), (q24, .inr (3, [.ref (u28a 0), .ref (u28a 1), .ref (u28a 2), .ref (u28a 3), .ref (u28a 4), .ref (u28a 5), .ref (u28a 6), .ref (u28a 7), .int 0])), ((u28a 0), .inl (c7, 200, .inl (fun _ => 0))), ((u28a 1), .inl (c7, 200, .inl (fun _ => 0))), ((u28a 2), .inl (c7, 200, .inl (fun _ => 0))), ((u28a 3), .inl (c7, 200, .inl (fun _ => 0))), ((u28a 4), .inl (c7, 200, .inl (fun _ => 0))), ((u28a 5), .inl (c7, 200, .inl (fun _ => 0))), ((u28a 6), .inl (u17Z, 200, .inl (fun _ => 0))), ((u28a 7), .inl (c7, 24, .inl (fun _ => 0))), (q35, .inr (1, [.long 0, .long 0])), (q46, .inr (0, [.int 0, .int 0, .int 0]))]) [0, 1, 2, 3, 4, 5, 6, 7, 8, 9, 10, 11, 12, 13, 14, 15, 16, 17, 18, 19] (by decide) rfl
  have hK9 : va_K D cls_ (ty_ c7 u17Z) s := hK.sub [0, 1] rfl
  exact W.vret hx hb hr (fun t ht hW => ⟨⟨((fun k : Nat => match k with | 0 => h0 | 1 => q7 | 2 => q13 | 3 => (u17a 0) | 4 => (u17a 1) | 5 => (u17a 2) | 6 => (u17a 3) | 7 => (u17a 4) | 8 => (u17a 5) | 9 => q24 | 10 => (u28a 0) | 11 => (u28a 1) | 12 => (u28a 2) | 13 => (u28a 3) | 14 => (u28a 4) | 15 => (u28a 5) | 16 => (u28a 6) | 17 => (u28a 7) | 18 => q35 | _ => q46), c7, u17Z), rfl, rfl, by rw [ht]; exact hP9, va_K.moved hW.alike hK9, hD9⟩, hS.F ht⟩) hS.2.2 d_E_init_89
abbrev rm_M_init : Room := { frames := 1, cells := 11, slots := 3266, locals := 12 }
theorem good_M_init : GoodIn TB (.code y_M_init b_M_init 1 none :: TB) := good_of tb_367
theorem hd_M_init : y_M_init.cls ≠ "java/lang/invoke/MethodHandle" ∧ y_M_init.cls ≠ "java/lang/invoke/VarHandle" ∧ (parseMethodDescriptor y_M_init.desc).map (fun d => d.parameters.length) = some 0 := by decide +kernel
theorem d_M_init_0 : decode b_M_init 0 = .ok (.aload_n 0, 1) := by decide +kernel
theorem d_M_init_1 : decode b_M_init 1 = .ok (.invokespecial 1, 3) := by decide +kernel
theorem d_M_init_4 : decode b_M_init 4 = .ok (.aload_n 0, 1) := by decide +kernel
theorem d_M_init_5 : decode b_M_init 5 = .ok (.bipush 64, 2) := by decide +kernel
theorem d_M_init_7 : decode b_M_init 7 = .ok (.newarray .int, 2) := by decide +kernel
theorem d_M_init_9 : decode b_M_init 9 = .ok (.putfield 7, 3) := by decide +kernel
theorem d_M_init_12 : decode b_M_init 12 = .ok (.aload_n 0, 1) := by decide +kernel
theorem d_M_init_13 : decode b_M_init 13 = .ok (.sipush 200, 3) := by decide +kernel
theorem d_M_init_16 : decode b_M_init 16 = .ok (.newarray .int, 2) := by decide +kernel
theorem d_M_init_18 : decode b_M_init 18 = .ok (.putfield 13, 3) := by decide +kernel
theorem d_M_init_21 : decode b_M_init 21 = .ok (.aload_n 0, 1) := by decide +kernel
theorem d_M_init_22 : decode b_M_init 22 = .ok (.sipush 200, 3) := by decide +kernel
theorem d_M_init_25 : decode b_M_init 25 = .ok (.newarray .int, 2) := by decide +kernel
theorem d_M_init_27 : decode b_M_init 27 = .ok (.putfield 16, 3) := by decide +kernel
theorem d_M_init_30 : decode b_M_init 30 = .ok (.aload_n 0, 1) := by decide +kernel
theorem d_M_init_31 : decode b_M_init 31 = .ok (.sipush 200, 3) := by decide +kernel
theorem d_M_init_34 : decode b_M_init 34 = .ok (.newarray .int, 2) := by decide +kernel
theorem d_M_init_36 : decode b_M_init 36 = .ok (.putfield 19, 3) := by decide +kernel
theorem d_M_init_39 : decode b_M_init 39 = .ok (.aload_n 0, 1) := by decide +kernel
theorem d_M_init_40 : decode b_M_init 40 = .ok (.sipush 200, 3) := by decide +kernel
theorem d_M_init_43 : decode b_M_init 43 = .ok (.newarray .int, 2) := by decide +kernel
theorem d_M_init_45 : decode b_M_init 45 = .ok (.putfield 22, 3) := by decide +kernel
theorem d_M_init_48 : decode b_M_init 48 = .ok (.aload_n 0, 1) := by decide +kernel
theorem d_M_init_49 : decode b_M_init 49 = .ok (.sipush 200, 3) := by decide +kernel
theorem d_M_init_52 : decode b_M_init 52 = .ok (.newarray .int, 2) := by decide +kernel
theorem d_M_init_54 : decode b_M_init 54 = .ok (.putfield 25, 3) := by decide +kernel
theorem d_M_init_57 : decode b_M_init 57 = .ok (.aload_n 0, 1) := by decide +kernel
theorem d_M_init_58 : decode b_M_init 58 = .ok (.sipush 200, 3) := by decide +kernel
theorem d_M_init_61 : decode b_M_init 61 = .ok (.newarray .int, 2) := by decide +kernel
theorem d_M_init_63 : decode b_M_init 63 = .ok (.putfield 28, 3) := by decide +kernel
theorem d_M_init_66 : decode b_M_init 66 = .ok (.aload_n 0, 1) := by decide +kernel
theorem d_M_init_67 : decode b_M_init 67 = .ok (.sipush 1600, 3) := by decide +kernel
theorem d_M_init_70 : decode b_M_init 70 = .ok (.newarray .int, 2) := by decide +kernel
theorem d_M_init_72 : decode b_M_init 72 = .ok (.putfield 31, 3) := by decide +kernel
theorem d_M_init_75 : decode b_M_init 75 = .ok (.aload_n 0, 1) := by decide +kernel
theorem d_M_init_76 : decode b_M_init 76 = .ok (.sipush 200, 3) := by decide +kernel
theorem d_M_init_79 : decode b_M_init 79 = .ok (.newarray .int, 2) := by decide +kernel
theorem d_M_init_81 : decode b_M_init 81 = .ok (.putfield 34, 3) := by decide +kernel
theorem d_M_init_84 : decode b_M_init 84 = .ok (.aload_n 0, 1) := by decide +kernel
theorem d_M_init_85 : decode b_M_init 85 = .ok (.sipush 200, 3) := by decide +kernel
theorem d_M_init_88 : decode b_M_init 88 = .ok (.newarray .int, 2) := by decide +kernel
theorem d_M_init_90 : decode b_M_init 90 = .ok (.putfield 37, 3) := by decide +kernel
theorem d_M_init_93 : decode b_M_init 93 = .ok (.aload_n 0, 1) := by decide +kernel
theorem d_M_init_94 : decode b_M_init 94 = .ok (.iconst 2, 1) := by decide +kernel
theorem d_M_init_95 : decode b_M_init 95 = .ok (.newarray .int, 2) := by decide +kernel
theorem d_M_init_97 : decode b_M_init 97 = .ok (.putfield 40, 3) := by decide +kernel
theorem d_M_init_100 : decode b_M_init 100 = .ok (.aload_n 0, 1) := by decide +kernel
theorem d_M_init_101 : decode b_M_init 101 = .ok (.iconst (-1), 1) := by decide +kernel
theorem d_M_init_102 : decode b_M_init 102 = .ok (.putfield 43, 3) := by decide +kernel
theorem d_M_init_105 : decode b_M_init 105 = .ok (.aload_n 0, 1) := by decide +kernel
theorem d_M_init_106 : decode b_M_init 106 = .ok (.getfield 40, 3) := by decide +kernel
theorem d_M_init_109 : decode b_M_init 109 = .ok (.iconst 0, 1) := by decide +kernel
theorem d_M_init_110 : decode b_M_init 110 = .ok (.bipush 50, 2) := by decide +kernel
theorem d_M_init_112 : decode b_M_init 112 = .ok (.iastore, 1) := by decide +kernel
theorem d_M_init_113 : decode b_M_init 113 = .ok (.aload_n 0, 1) := by decide +kernel
theorem d_M_init_114 : decode b_M_init 114 = .ok (.getfield 40, 3) := by decide +kernel
theorem d_M_init_117 : decode b_M_init 117 = .ok (.iconst 1, 1) := by decide +kernel
theorem d_M_init_118 : decode b_M_init 118 = .ok (.sipush 500, 3) := by decide +kernel
theorem d_M_init_121 : decode b_M_init 121 = .ok (.iastore, 1) := by decide +kernel
theorem d_M_init_122 : decode b_M_init 122 = .ok (.return_, 1) := by decide +kernel
set_option maxHeartbeats 4000000 in
set_option maxRecDepth 100000 in
theorem c_M_init (l : Launch) (D : va_G) (h0 sz : Nat) : Met l y_M_init (.code y_M_init b_M_init 1 none :: TB) rm_M_init (va_Pc [.ref h0] (fun U => U.heap.size = sz ∧ va_P D cls_ [(h0, .inr (5, [.null, .int 0, .null, .null, .null, .null, .null, .null, .null, .null, .null, .int 0, .int 0, .null, .int 0, .int 0, .int 0, .int 0, .int 0]))] U.heap ∧ va_K D cls_ [] U ∧ va_D (fun _ => True) [(h0, .inr (5, [.null, .int 0, .null, .null, .null, .null, .null, .null, .null, .null, .null, .int 0, .int 0, .null, .int 0, .int 0, .int 0, .int 0, .int 0]))] ∧ NW U)) (va_Qv (fun u : (Nat → Nat) × ClassId × ClassId => u.1 0 = h0) (fun u t => va_P D cls_ (wM u.1 u.2.1 u.2.2 gM0) t.heap ∧ va_K D cls_ ([(u.2.1, .int)]) t ∧ va_D (va_A [(h0, .inr (5, [.null, .int 0, .null, .null, .null, .null, .null, .null, .null, .null, .null, .int 0, .int 0, .null, .int 0, .int 0, .int 0, .int 0, .int 0]))] sz) (wM u.1 u.2.1 u.2.2 gM0)) (va_A [(h0, .inr (5, [.null, .int 0, .null, .null, .null, .null, .null, .null, .null, .null, .null, .int 0, .int 0, .null, .int 0, .int 0, .int 0, .int 0, .int 0]))] sz)) 11 3266 (va_A [(h0, .inr (5, [.null, .int 0, .null, .null, .null, .null, .null, .null, .null, .null, .null, .int 0, .int 0, .null, .int 0, .int 0, .int 0, .int 0, .int 0]))] sz) := by
  refine Met.ofW (cc := b_M_init) (maxL := 1) (ret := none) (by decide +kernel) rfl ?_
  intro p e s m args below meth c s₁ B hml hv
  obtain ⟨rfl, hsz, hP, hK, hD0, hN⟩ := hv
  have hx := B.exec
  have hb := B.bytes
  have hr := B.returns
  have hts0 := atoms_spec (ws := Cond.code y_M_init b_M_init 1 none :: TB) B.pre
  have hts : ∀ w ∈ TB, w.before _ s = true := fun w h => hts0 w (List.mem_cons_of_mem _ h)
  have hown : s.vm.findClass R_M = some m.cls := findClass_of_methodNamed B.named
  have hlocks := B.notSynchronized
  have hin : meth.name = "<init>" := (name_of_methodNamed B.named B.method).1
  subst hsz
  have hD := hD0.self (sz := s.heap.size)
  generalize hAe : va_A [(h0, .inr (5, [.null, .int 0, .null, .null, .null, .null, .null, .null, .null, .null, .null, .int 0, .int 0, .null, .int 0, .int 0, .int 0, .int 0, .int 0]))] s.heap.size = A at hD ⊢
  have hA : ∀ q : Nat, s.heap.size ≤ q → A q := fun q h => by rw [← hAe]; exact Or.inr h
  have hS : va_S A s.heap s.heap [] := va_S.rf
  have hl := lv_entry ([.ref h0]) (n := 1) (Nat.le_of_ble_eq_true rfl)
  rw [lg_entry_eq]
  generalize (lg_sl ([.ref h0]) ++ List.replicate (1 - (lg_sl ([.ref h0])).length) Slot.unset).toArray = ls at hl ⊢
  have hl : lv_has ls 1 [(0, .ref h0)] := hl
  refine lv_aload_n hx hb d_M_init_0 rfl (lv_at hl 0 rfl) ?_
  refine W.objInit hx hb hown (hts _ tb_368) (hts _ tb_15) (hts _ tb_16) rfl (by rw [hml]; exact hl.1) rfl d_M_init_1 (Nat.le_of_ble_eq_true rfl) (Nat.le_of_ble_eq_true rfl) ?_
  refine W.eq (g2 := F0 m 4 ls []) rfl ?_
  refine lv_aload_n hx hb d_M_init_4 rfl (lv_at hl 0 rfl) ?_
  refine lv_bipush (v := 64) hx hb d_M_init_5 (by decide) ?_
  refine va_newa (atype := .int) (ty := .int) (N' := 64) (a0 := (64, .inl (fun _ => 0))) hx hb (hts _ tb_51) rfl hK hP hD hS hA (fun _ => rfl) (by decide) (by decide) (by decide) (Nat.le_of_ble_eq_true rfl) (Nat.le_of_ble_eq_true rfl) d_M_init_7 (fun q7 c7 H hK hP hD hS => ?_)
  refine W.widen (k := 1) (n := 64) (by decide) (by decide) ?_
  have hK : va_K D cls_ [(c7, .int)] s := hK
  have hP : va_P D cls_ [(h0, .inr (5, [.null, .int 0, .null, .null, .null, .null, .null, .null, .null, .null, .null, .int 0, .int 0, .null, .int 0, .int 0, .int 0, .int 0, .int 0])), (q7, .inl (c7, 64, .inl (fun _ => 0)))] H := hP
  have hD : va_D A [(h0, .inr (5, [.null, .int 0, .null, .null, .null, .null, .null, .null, .null, .null, .null, .int 0, .int 0, .null, .int 0, .int 0, .int 0, .int 0, .int 0])), (q7, .inl (c7, 64, .inl (fun _ => 0)))] := hD
  refine va_put (D := D) (ci := 5) (v := .ref q7) (ty := .array .int) (C := R_M) (T := F_M) (N := 19) hx hb hts in_M t_M t_M_ok n_M hown hK hP hD hS 0 rfl rfl 0 (by decide) (hts _ tb_369) (fun _ h9 => h9) rfl (by decide +kernel) rfl rfl (Nat.le_of_ble_eq_true rfl) d_M_init_9 (fun H locs hP hD hS => ?_)
  have hP : va_P D cls_ [(h0, .inr (5, [.ref q7, .int 0, .null, .null, .null, .null, .null, .null, .null, .null, .null, .int 0, .int 0, .null, .int 0, .int 0, .int 0, .int 0, .int 0])), (q7, .inl (c7, 64, .inl (fun _ => 0)))] H := hP
  have hD : va_D A [(h0, .inr (5, [.ref q7, .int 0, .null, .null, .null, .null, .null, .null, .null, .null, .null, .int 0, .int 0, .null, .int 0, .int 0, .int 0, .int 0, .int 0])), (q7, .inl (c7, 64, .inl (fun _ => 0)))] := hD
  refine lv_aload_n hx hb d_M_init_12 rfl (lv_at hl 0 rfl) ?_
  refine lv_sipush (v := 200) hx hb d_M_init_13 (by decide) ?_
  refine va_newa (atype := .int) (ty := .int) (N' := 200) (a0 := (200, .inl (fun _ => 0))) hx hb (hts _ tb_51) rfl hK hP hD hS hA (fun _ => rfl) (by decide) (by decide) (by decide) (Nat.le_of_ble_eq_true rfl) (Nat.le_of_ble_eq_true rfl) d_M_init_16 (fun q16 c16 H hK hP hD hS => ?_)
  refine W.widen (k := 2) (n := 264) (by decide) (by decide) ?_
  have e16 : c7 = c16 := arr_eqI hK 0 1 rfl rfl
  subst e16
  have hK : va_K D cls_ [(c7, .int)] s := hK.sub [0] rfl
  have hP : va_P D cls_ [(h0, .inr (5, [.ref q7, .int 0, .null, .null, .null, .null, .null, .null, .null, .null, .null, .int 0, .int 0, .null, .int 0, .int 0, .int 0, .int 0, .int 0])), (q7, .inl (c7, 64, .inl (fun _ => 0))), (q16, .inl (c7, 200, .inl (fun _ => 0)))] H := hP
  have hD : va_D A [(h0, .inr (5, [.ref q7, .int 0, .null, .null, .null, .null, .null, .null, .null, .null, .null, .int 0, .int 0, .null, .int 0, .int 0, .int 0, .int 0, .int 0])), (q7, .inl (c7, 64, .inl (fun _ => 0))), (q16, .inl (c7, 200, .inl (fun _ => 0)))] := hD
  refine va_put (D := D) (ci := 5) (v := .ref q16) (ty := .array .int) (C := R_M) (T := F_M) (N := 19) hx hb hts in_M t_M t_M_ok n_M hown hK hP hD hS 0 rfl rfl 2 (by decide) (hts _ tb_371) (fun _ h9 => h9) rfl (by decide +kernel) rfl rfl (Nat.le_of_ble_eq_true rfl) d_M_init_18 (fun H locs hP hD hS => ?_)
  have hP : va_P D cls_ [(h0, .inr (5, [.ref q7, .int 0, .ref q16, .null, .null, .null, .null, .null, .null, .null, .null, .int 0, .int 0, .null, .int 0, .int 0, .int 0, .int 0, .int 0])), (q7, .inl (c7, 64, .inl (fun _ => 0))), (q16, .inl (c7, 200, .inl (fun _ => 0)))] H := hP
  have hD : va_D A [(h0, .inr (5, [.ref q7, .int 0, .ref q16, .null, .null, .null, .null, .null, .null, .null, .null, .int 0, .int 0, .null, .int 0, .int 0, .int 0, .int 0, .int 0])), (q7, .inl (c7, 64, .inl (fun _ => 0))), (q16, .inl (c7, 200, .inl (fun _ => 0)))] := hD
  refine lv_aload_n hx hb d_M_init_21 rfl (lv_at hl 0 rfl) ?_
  refine lv_sipush (v := 200) hx hb d_M_init_22 (by decide) ?_
  refine va_newa (atype := .int) (ty := .int) (N' := 200) (a0 := (200, .inl (fun _ => 0))) hx hb (hts _ tb_51) rfl hK hP hD hS hA (fun _ => rfl) (by decide) (by decide) (by decide) (Nat.le_of_ble_eq_true rfl) (Nat.le_of_ble_eq_true rfl) d_M_init_25 (fun q25 c25 H hK hP hD hS => ?_)
  refine W.widen (k := 3) (n := 464) (by decide) (by decide) ?_
  have e25 : c7 = c25 := arr_eqI hK 0 1 rfl rfl
  subst e25
  have hK : va_K D cls_ [(c7, .int)] s := hK.sub [0] rfl
  have hP : va_P D cls_ [(h0, .inr (5, [.ref q7, .int 0, .ref q16, .null, .null, .null, .null, .null, .null, .null, .null, .int 0, .int 0, .null, .int 0, .int 0, .int 0, .int 0, .int 0])), (q7, .inl (c7, 64, .inl (fun _ => 0))), (q16, .inl (c7, 200, .inl (fun _ => 0))), (q25, .inl (c7, 200, .inl (fun _ => 0)))] H := hP
  have hD : va_D A [(h0, .inr (5, [.ref q7, .int 0, .ref q16, .null, .null, .null, .null, .null, .null, .null, .null, .int 0, .int 0, .null, .int 0, .int 0, .int 0, .int 0, .int 0])), (q7, .inl (c7, 64, .inl (fun _ => 0))), (q16, .inl (c7, 200, .inl (fun _ => 0))), (q25, .inl (c7, 200, .inl (fun _ => 0)))] := hD
  refine va_put (D := D) (ci := 5) (v := .ref q25) (ty := .array .int) (C := R_M) (T := F_M) (N := 19) hx hb hts in_M t_M t_M_ok n_M hown hK hP hD hS 0 rfl rfl 3 (by decide) (hts _ tb_372) (fun _ h9 => h9) rfl (by decide +kernel) rfl rfl (Nat.le_of_ble_eq_true rfl) d_M_init_27 (fun H locs hP hD hS => ?_)
  have hP : va_P D cls_ [(h0, .inr (5, [.ref q7, .int 0, .ref q16, .ref q25, .null, .null, .null, .null, .null, .null, .null, .int 0, .int 0, .null, .int 0, .int 0, .int 0, .int 0, .int 0])), (q7, .inl (c7, 64, .inl (fun _ => 0))), (q16, .inl (c7, 200, .inl (fun _ => 0))), (q25, .inl (c7, 200, .inl (fun _ => 0)))] H := hP
  have hD : va_D A [(h0, .inr (5, [.ref q7, .int 0, .ref q16, .ref q25, .null, .null, .null, .null, .null, .null, .null, .int 0, .int 0, .null, .int 0, .int 0, .int 0, .int 0, .int 0])), (q7, .inl (c7, 64, .inl (fun _ => 0))), (q16, .inl (c7, 200, .inl (fun _ => 0))), (q25, .inl (c7, 200, .inl (fun _ => 0)))] := hD
  refine lv_aload_n hx hb d_M_init_30 rfl (lv_at hl 0 rfl) ?_
  refine lv_sipush (v := 200) hx hb d_M_init_31 (by decide) ?_
  refine va_newa (atype := .int) (ty := .int) (N' := 200) (a0 := (200, .inl (fun _ => 0))) hx hb (hts _ tb_51) rfl hK hP hD hS hA (fun _ => rfl) (by decide) (by decide) (by decide) (Nat.le_of_ble_eq_true rfl) (Nat.le_of_ble_eq_true rfl) d_M_init_34 (fun q34 c34 H hK hP hD hS => ?_)
  refine W.widen (k := 4) (n := 664) (by decide) (by decide) ?_
  have e34 : c7 = c34 := arr_eqI hK 0 1 rfl rfl
  subst e34
  have hK : va_K D cls_ [(c7, .int)] s := hK.sub [0] rfl
  have hP : va_P D cls_ [(h0, .inr (5, [.ref q7, .int 0, .ref q16, .ref q25, .null, .null, .null, .null, .null, .null, .null, .int 0, .int 0, .null, .int 0, .int 0, .int 0, .int 0, .int 0])), (q7, .inl (c7, 64, .inl (fun _ => 0))), (q16, .inl (c7, 200, .inl (fun _ => 0))), (q25, .inl (c7, 200, .inl (fun _ => 0))), (q34, .inl (c7, 200, .inl (fun _ => 0)))] H := hP
  have hD : va_D A [(h0, .inr (5, [.ref q7, .int 0, .ref q16, .ref q25, .null, .null, .null, .null, .null, .null, .null, .int 0, .int 0, .null, .int 0, .int 0, .int 0, .int 0, .int 0])), (q7, .inl (c7, 64, .inl (fun _ => 0))), (q16, .inl (c7, 200, .inl (fun _ => 0))), (q25, .inl (c7, 200, .inl (fun _ => 0))), (q34, .inl (c7, 200, .inl (fun _ => 0)))] := hD
  refine va_put (D := D) (ci := 5) (v := .ref q34) (ty := .array .int) (C := R_M) (T := F_M) (N := 19) hx hb hts in_M t_M t_M_ok n_M hown hK hP hD hS 0 rfl rfl 4 (by decide) (hts _ tb_373) (fun _ h9 => h9) rfl (by decide +kernel) rfl rfl (Nat.le_of_ble_eq_true rfl) d_M_init_36 (fun H locs hP hD hS => ?_)
  have hP : va_P D cls_ [(h0, .inr (5, [.ref q7, .int 0, .ref q16, .ref q25, .ref q34, .null, .null, .null, .null, .null, .null, .int 0, .int 0, .null, .int 0, .int 0, .int 0, .int 0, .int 0])), (q7, .inl (c7, 64, .inl (fun _ => 0))), (q16, .inl (c7, 200, .inl (fun _ => 0))), (q25, .inl (c7, 200, .inl (fun _ => 0))), (q34, .inl (c7, 200, .inl (fun _ => 0)))] H := hP
  have hD : va_D A [(h0, .inr (5, [.ref q7, .int 0, .ref q16, .ref q25, .ref q34, .null, .null, .null, .null, .null, .null, .int 0, .int 0, .null, .int 0, .int 0, .int 0, .int 0, .int 0])), (q7, .inl (c7, 64, .inl (fun _ => 0))), (q16, .inl (c7, 200, .inl (fun _ => 0))), (q25, .inl (c7, 200, .inl (fun _ => 0))), (q34, .inl (c7, 200, .inl (fun _ => 0)))] := hD
  refine lv_aload_n hx hb d_M_init_39 rfl (lv_at hl 0 rfl) ?_
  refine lv_sipush (v := 200) hx hb d_M_init_40 (by decide) ?_
  refine va_newa (atype := .int) (ty := .int) (N' := 200) (a0 := (200, .inl (fun _ => 0))) hx hb (hts _ tb_51) rfl hK hP hD hS hA (fun _ => rfl) (by decide) (by decide) (by decide) (Nat.le_of_ble_eq_true rfl) (Nat.le_of_ble_eq_true rfl) d_M_init_43 (fun q43 c43 H hK hP hD hS => ?_)
  refine W.widen (k := 5) (n := 864) (by decide) (by decide) ?_
  have e43 : c7 = c43 := arr_eqI hK 0 1 rfl rfl
  subst e43
  have hK : va_K D cls_ [(c7, .int)] s := hK.sub [0] rfl
  have hP : va_P D cls_ [(h0, .inr (5, [.ref q7, .int 0, .ref q16, .ref q25, .ref q34, .null, .null, .null, .null, .null, .null, .int 0, .int 0, .null, .int 0, .int 0, .int 0, .int 0, .int 0])), (q7, .inl (c7, 64, .inl (fun _ => 0))), (q16, .inl (c7, 200, .inl (fun _ => 0))), (q25, .inl (c7, 200, .inl (fun _ => 0))), (q34, .inl (c7, 200, .inl (fun _ => 0))), (q43, .inl (c7, 200, .inl (fun _ => 0)))] H := hP
  have hD : va_D A [(h0, .inr (5, [.ref q7, .int 0, .ref q16, .ref q25, .ref q34, .null, .null, .null, .null, .null, .null, .int 0, .int 0, .null, .int 0, .int 0, .int 0, .int 0, .int 0])), (q7, .inl (c7, 64, .inl (fun _ => 0))), (q16, .inl (c7, 200, .inl (fun _ => 0))), (q25, .inl (c7, 200, .inl (fun _ => 0))), (q34, .inl (c7, 200, .inl (fun _ => 0))), (q43, .inl (c7, 200, .inl (fun _ => 0)))] := hD
  refine va_put (D := D) (ci := 5) (v := .ref q43) (ty := .array .int) (C := R_M) (T := F_M) (N := 19) hx hb hts in_M t_M t_M_ok n_M hown hK hP hD hS 0 rfl rfl 5 (by decide) (hts _ tb_374) (fun _ h9 => h9) rfl (by decide +kernel) rfl rfl (Nat.le_of_ble_eq_true rfl) d_M_init_45 (fun H locs hP hD hS => ?_)
  have hP : va_P D cls_ [(h0, .inr (5, [.ref q7, .int 0, .ref q16, .ref q25, .ref q34, .ref q43, .null, .null, .null, .null, .null, .int 0, .int 0, .null, .int 0, .int 0, .int 0, .int 0, .int 0])), (q7, .inl (c7, 64, .inl (fun _ => 0))), (q16, .inl (c7, 200, .inl (fun _ => 0))), (q25, .inl (c7, 200, .inl (fun _ => 0))), (q34, .inl (c7, 200, .inl (fun _ => 0))), (q43, .inl (c7, 200, .inl (fun _ => 0)))] H := hP
  have hD : va_D A [(h0, .inr (5, [.ref q7, .int 0, .ref q16, .ref q25, .ref q34, .ref q43, .null, .null, .null, .null, .null, .int 0, .int 0, .null, .int 0, .int 0, .int 0, .int 0, .int 0])), (q7, .inl (c7, 64, .inl (fun _ => 0))), (q16, .inl (c7, 200, .inl (fun _ => 0))), (q25, .inl (c7, 200, .inl (fun _ => 0))), (q34, .inl (c7, 200, .inl (fun _ => 0))), (q43, .inl (c7, 200, .inl (fun _ => 0)))] := hD
  refine lv_aload_n hx hb d_M_init_48 rfl (lv_at hl 0 rfl) ?_
  refine lv_sipush (v := 200) hx hb d_M_init_49 (by decide) ?_
  refine va_newa (atype := .int) (ty := .int) (N' := 200) (a0 := (200, .inl (fun _ => 0))) hx hb (hts _ tb_51) rfl hK hP hD hS hA (fun _ => rfl) (by decide) (by decide) (by decide) (Nat.le_of_ble_eq_true rfl) (Nat.le_of_ble_eq_true rfl) d_M_init_52 (fun q52 c52 H hK hP hD hS => ?_)
  refine W.widen (k := 6) (n := 1064) (by decide) (by decide) ?_
  have e52 : c7 = c52 := arr_eqI hK 0 1 rfl rfl
  subst e52
  have hK : va_K D cls_ [(c7, .int)] s := hK.sub [0] rfl
  have hP : va_P D cls_ [(h0, .inr (5, [.ref q7, .int 0, .ref q16, .ref q25, .ref q34, .ref q43, .null, .null, .null, .null, .null, .int 0, .int 0, .null, .int 0, .int 0, .int 0, .int 0, .int 0])), (q7, .inl (c7, 64, .inl (fun _ => 0))), (q16, .inl (c7, 200, .inl (fun _ => 0))), (q25, .inl (c7, 200, .inl (fun _ => 0))), (q34, .inl (c7, 200, .inl (fun _ => 0))), (q43, .inl (c7, 200, .inl (fun _ => 0))), (q52, .inl (c7, 200, .inl (fun _ => 0)))] H := hP
  have hD : va_D A [(h0, .inr (5, [.ref q7, .int 0, .ref q16, .ref q25, .ref q34, .ref q43, .null, .null, .null, .null, .null, .int 0, .int 0, .null, .int 0, .int 0, .int 0, .int 0, .int 0])), (q7, .inl (c7, 64, .inl (fun _ => 0))), (q16, .inl (c7, 200, .inl (fun _ => 0))), (q25, .inl (c7, 200, .inl (fun _ => 0))), (q34, .inl (c7, 200, .inl (fun _ => 0))), (q43, .inl (c7, 200, .inl (fun _ => 0))), (q52, .inl (c7, 200, .inl (fun _ => 0)))] := hD
  refine va_put (D := D) (ci := 5) (v := .ref q52) (ty := .array .int) (C := R_M) (T := F_M) (N := 19) hx hb hts in_M t_M t_M_ok n_M hown hK hP hD hS 0 rfl rfl 6 (by decide) (hts _ tb_375) (fun _ h9 => h9) rfl (by decide +kernel) rfl rfl (Nat.le_of_ble_eq_true rfl) d_M_init_54 (fun H locs hP hD hS => ?_)
  have hP : va_P D cls_ [(h0, .inr (5, [.ref q7, .int 0, .ref q16, .ref q25, .ref q34, .ref q43, .ref q52, .null, .null, .null, .null, .int 0, .int 0, .null, .int 0, .int 0, .int 0, .int 0, .int 0])), (q7, .inl (c7, 64, .inl (fun _ => 0))), (q16, .inl (c7, 200, .inl (fun _ => 0))), (q25, .inl (c7, 200, .inl (fun _ => 0))), (q34, .inl (c7, 200, .inl (fun _ => 0))), (q43, .inl (c7, 200, .inl (fun _ => 0))), (q52, .inl (c7, 200, .inl (fun _ => 0)))] H := hP
  have hD : va_D A [(h0, .inr (5, [.ref q7, .int 0, .ref q16, .ref q25, .ref q34, .ref q43, .ref q52, .null, .null, .null, .null, .int 0, .int 0, .null, .int 0, .int 0, .int 0, .int 0, .int 0])), (q7, .inl (c7, 64, .inl (fun _ => 0))), (q16, .inl (c7, 200, .inl (fun _ => 0))), (q25, .inl (c7, 200, .inl (fun _ => 0))), (q34, .inl (c7, 200, .inl (fun _ => 0))), (q43, .inl (c7, 200, .inl (fun _ => 0))), (q52, .inl (c7, 200, .inl (fun _ => 0)))] := hD
  refine lv_aload_n hx hb d_M_init_57 rfl (lv_at hl 0 rfl) ?_
  refine lv_sipush (v := 200) hx hb d_M_init_58 (by decide) ?_
  refine va_newa (atype := .int) (ty := .int) (N' := 200) (a0 := (200, .inl (fun _ => 0))) hx hb (hts _ tb_51) rfl hK hP hD hS hA (fun _ => rfl) (by decide) (by decide) (by decide) (Nat.le_of_ble_eq_true rfl) (Nat.le_of_ble_eq_true rfl) d_M_init_61 (fun q61 c61 H hK hP hD hS => ?_)
  refine W.widen (k := 7) (n := 1264) (by decide) (by decide) ?_
  have e61 : c7 = c61 := arr_eqI hK 0 1 rfl rfl
  subst e61
  have hK : va_K D cls_ [(c7, .int)] s := hK.sub [0] rfl
  have hP : va_P D cls_ [(h0, .inr (5, [.ref q7, .int 0, .ref q16, .ref q25, .ref q34, .ref q43, .ref q52, .null, .null, .null, .null, .int 0, .int 0, .null, .int 0, .int 0, .int 0, .int 0, .int 0])), (q7, .inl (c7, 64, .inl (fun _ => 0))), (q16, .inl (c7, 200, .inl (fun _ => 0))), (q25, .inl (c7, 200, .inl (fun _ => 0))), (q34, .inl (c7, 200, .inl (fun _ => 0))), (q43, .inl (c7, 200, .inl (fun _ => 0))), (q52, .inl (c7, 200, .inl (fun _ => 0))), (q61, .inl (c7, 200, .inl (fun _ => 0)))] H := hP
  have hD : va_D A [(h0, .inr (5, [.ref q7, .int 0, .ref q16, .ref q25, .ref q34, .ref q43, .ref q52, .null, .null, .null, .null, .int 0, .int 0, .null, .int 0, .int 0, .int 0, .int 0, .int 0])), (q7, .inl (c7, 64, .inl (fun _ => 0))), (q16, .inl (c7, 200, .inl (fun _ => 0))), (q25, .inl (c7, 200, .inl (fun _ => 0))), (q34, .inl (c7, 200, .inl (fun _ => 0))), (q43, .inl (c7, 200, .inl (fun _ => 0))), (q52, .inl (c7, 200, .inl (fun _ => 0))), (q61, .inl (c7, 200, .inl (fun _ => 0)))] := hD
  refine va_put (D := D) (ci := 5) (v := .ref q61) (ty := .array .int) (C := R_M) (T := F_M) (N := 19) hx hb hts in_M t_M t_M_ok n_M hown hK hP hD hS 0 rfl rfl 7 (by decide) (hts _ tb_376) (fun _ h9 => h9) rfl (by decide +kernel) rfl rfl (Nat.le_of_ble_eq_true rfl) d_M_init_63 (fun H locs hP hD hS => ?_)
  have hP : va_P D cls_ [(h0, .inr (5, [.ref q7, .int 0, .ref q16, .ref q25, .ref q34, .ref q43, .ref q52, .ref q61, .null, .null, .null, .int 0, .int 0, .null, .int 0, .int 0, .int 0, .int 0, .int 0])), (q7, .inl (c7, 64, .inl (fun _ => 0))), (q16, .inl (c7, 200, .inl (fun _ => 0))), (q25, .inl (c7, 200, .inl (fun _ => 0))), (q34, .inl (c7, 200, .inl (fun _ => 0))), (q43, .inl (c7, 200, .inl (fun _ => 0))), (q52, .inl (c7, 200, .inl (fun _ => 0))), (q61, .inl (c7, 200, .inl (fun _ => 0)))] H := hP
  have hD : va_D A [(h0, .inr (5, [.ref q7, .int 0, .ref q16, .ref q25, .ref q34, .ref q43, .ref q52, .ref q61, .null, .null, .null, .int 0, .int 0, .null, .int 0, .int 0, .int 0, .int 0, .int 0])), (q7, .inl (c7, 64, .inl (fun _ => 0))), (q16, .inl (c7, 200, .inl (fun _ => 0))), (q25, .inl (c7, 200, .inl (fun _ => 0))), (q34, .inl (c7, 200, .inl (fun _ => 0))), (q43, .inl (c7, 200, .inl (fun _ => 0))), (q52, .inl (c7, 200, .inl (fun _ => 0))), (q61, .inl (c7, 200, .inl (fun _ => 0)))] := hD
  refine lv_aload_n hx hb d_M_init_66 rfl (lv_at hl 0 rfl) ?_
  refine lv_sipush (v := 1600) hx hb d_M_init_67 (by decide) ?_
  refine va_newa (atype := .int) (ty := .int) (N' := 1600) (a0 := (1600, .inl (fun _ => 0))) hx hb (hts _ tb_51) rfl hK hP hD hS hA (fun _ => rfl) (by decide) (by decide) (by decide) (Nat.le_of_ble_eq_true rfl) (Nat.le_of_ble_eq_true rfl) d_M_init_70 (fun q70 c70 H hK hP hD hS => ?_)
  refine W.widen (k := 8) (n := 2864) (by decide) (by decide) ?_
  have e70 : c7 = c70 := arr_eqI hK 0 1 rfl rfl
  subst e70
  have hK : va_K D cls_ [(c7, .int)] s := hK.sub [0] rfl
  have hP : va_P D cls_ [(h0, .inr (5, [.ref q7, .int 0, .ref q16, .ref q25, .ref q34, .ref q43, .ref q52, .ref q61, .null, .null, .null, .int 0, .int 0, .null, .int 0, .int 0, .int 0, .int 0, .int 0])), (q7, .inl (c7, 64, .inl (fun _ => 0))), (q16, .inl (c7, 200, .inl (fun _ => 0))), (q25, .inl (c7, 200, .inl (fun _ => 0))), (q34, .inl (c7, 200, .inl (fun _ => 0))), (q43, .inl (c7, 200, .inl (fun _ => 0))), (q52, .inl (c7, 200, .inl (fun _ => 0))), (q61, .inl (c7, 200, .inl (fun _ => 0))), (q70, .inl (c7, 1600, .inl (fun _ => 0)))] H := hP
  have hD : va_D A [(h0, .inr (5, [.ref q7, .int 0, .ref q16, .ref q25, .ref q34, .ref q43, .ref q52, .ref q61, .null, .null, .null, .int 0, .int 0, .null, .int 0, .int 0, .int 0, .int 0, .int 0])), (q7, .inl (c7, 64, .inl (fun _ => 0))), (q16, .inl (c7, 200, .inl (fun _ => 0))), (q25, .inl (c7, 200, .inl (fun _ => 0))), (q34, .inl (c7, 200, .inl (fun _ => 0))), (q43, .inl (c7, 200, .inl (fun _ => 0))), (q52, .inl (c7, 200, .inl (fun _ => 0))), (q61, .inl (c7, 200, .inl (fun _ => 0))), (q70, .inl (c7, 1600, .inl (fun _ => 0)))] := hD
  refine va_put (D := D) (ci := 5) (v := .ref q70) (ty := .array .int) (C := R_M) (T := F_M) (N := 19) hx hb hts in_M t_M t_M_ok n_M hown hK hP hD hS 0 rfl rfl 8 (by decide) (hts _ tb_377) (fun _ h9 => h9) rfl (by decide +kernel) rfl rfl (Nat.le_of_ble_eq_true rfl) d_M_init_72 (fun H locs hP hD hS => ?_)
  have hP : va_P D cls_ [(h0, .inr (5, [.ref q7, .int 0, .ref q16, .ref q25, .ref q34, .ref q43, .ref q52, .ref q61, .ref q70, .null, .null, .int 0, .int 0, .null, .int 0, .int 0, .int 0, .int 0, .int 0])), (q7, .inl (c7, 64, .inl (fun _ => 0))), (q16, .inl (c7, 200, .inl (fun _ => 0))), (q25, .inl (c7, 200, .inl (fun _ => 0))), (q34, .inl (c7, 200, .inl (fun _ => 0))), (q43, .inl (c7, 200, .inl (fun _ => 0))), (q52, .inl (c7, 200, .inl (fun _ => 0))), (q61, .inl (c7, 200, .inl (fun _ => 0))), (q70, .inl (c7, 1600, .inl (fun _ => 0)))] H := hP
  have hD : va_D A [(h0, .inr (5, [.ref q7, .int 0, .ref q16, .ref q25, .ref q34, .ref q43, .ref q52, .ref q61, .ref q70, .null, .null, .int 0, .int 0, .null, .int 0, .int 0, .int 0, .int 0, .int 0])), (q7, .inl (c7, 64, .inl (fun _ => 0))), (q16, .inl (c7, 200, .inl (fun _ => 0))), (q25, .inl (c7, 200, .inl (fun _ => 0))), (q34, .inl (c7, 200, .inl (fun _ => 0))), (q43, .inl (c7, 200, .inl (fun _ => 0))), (q52, .inl (c7, 200, .inl (fun _ => 0))), (q61, .inl (c7, 200, .inl (fun _ => 0))), (q70, .inl (c7, 1600, .inl (fun _ => 0)))] := hD
  refine lv_aload_n hx hb d_M_init_75 rfl (lv_at hl 0 rfl) ?_
  refine lv_sipush (v := 200) hx hb d_M_init_76 (by decide) ?_
  refine va_newa (atype := .int) (ty := .int) (N' := 200) (a0 := (200, .inl (fun _ => 0))) hx hb (hts _ tb_51) rfl hK hP hD hS hA (fun _ => rfl) (by decide) (by decide) (by decide) (Nat.le_of_ble_eq_true rfl) (Nat.le_of_ble_eq_true rfl) d_M_init_79 (fun q79 c79 H hK hP hD hS => ?_)
  refine W.widen (k := 9) (n := 3064) (by decide) (by decide) ?_
  have e79 : c7 = c79 := arr_eqI hK 0 1 rfl rfl
  subst e79
  have hK : va_K D cls_ [(c7, .int)] s := hK.sub [0] rfl
  have hP : va_P D cls_ [(h0, .inr (5, [.ref q7, .int 0, .ref q16, .ref q25, .ref q34, .ref q43, .ref q52, .ref q61, .ref q70, .null, .null, .int 0, .int 0, .null, .int 0, .int 0, .int 0, .int 0, .int 0])), (q7, .inl (c7, 64, .inl (fun _ => 0))), (q16, .inl (c7, 200, .inl (fun _ => 0))), (q25, .inl (c7, 200, .inl (fun _ => 0))), (q34, .inl (c7, 200, .inl (fun _ => 0))), (q43, .inl (c7, 200, .inl (fun _ => 0))), (q52, .inl (c7, 200, .inl (fun _ => 0))), (q61, .inl (c7, 200, .inl (fun _ => 0))), (q70, .inl (c7, 1600, .inl (fun _ => 0))), (q79, .inl (c7, 200, .inl (fun _ => 0)))] H := hP
  have hD : va_D A [(h0, .inr (5, [.ref q7, .int 0, .ref q16, .ref q25, .ref q34, .ref q43, .ref q52, .ref q61, .ref q70, .null, .null, .int 0, .int 0, .null, .int 0, .int 0, .int 0, .int 0, .int 0])), (q7, .inl (c7, 64, .inl (fun _ => 0))), (q16, .inl (c7, 200, .inl (fun _ => 0))), (q25, .inl (c7, 200, .inl (fun _ => 0))), (q34, .inl (c7, 200, .inl (fun _ => 0))), (q43, .inl (c7, 200, .inl (fun _ => 0))), (q52, .inl (c7, 200, .inl (fun _ => 0))), (q61, .inl (c7, 200, .inl (fun _ => 0))), (q70, .inl (c7, 1600, .inl (fun _ => 0))), (q79, .inl (c7, 200, .inl (fun _ => 0)))] := hD
  refine va_put (D := D) (ci := 5) (v := .ref q79) (ty := .array .int) (C := R_M) (T := F_M) (N := 19) hx hb hts in_M t_M t_M_ok n_M hown hK hP hD hS 0 rfl rfl 9 (by decide) (hts _ tb_378) (fun _ h9 => h9) rfl (by decide +kernel) rfl rfl (Nat.le_of_ble_eq_true rfl) d_M_init_81 (fun H locs hP hD hS => ?_)
  have hP : va_P D cls_ [(h0, .inr (5, [.ref q7, .int 0, .ref q16, .ref q25, .ref q34, .ref q43, .ref q52, .ref q61, .ref q70, .ref q79, .null, .int 0, .int 0, .null, .int 0, .int 0, .int 0, .int 0, .int 0])), (q7, .inl (c7, 64, .inl (fun _ => 0))), (q16, .inl (c7, 200, .inl (fun _ => 0))), (q25, .inl (c7, 200, .inl (fun _ => 0))), (q34, .inl (c7, 200, .inl (fun _ => 0))), (q43, .inl (c7, 200, .inl (fun _ => 0))), (q52, .inl (c7, 200, .inl (fun _ => 0))), (q61, .inl (c7, 200, .inl (fun _ => 0))), (q70, .inl (c7, 1600, .inl (fun _ => 0))), (q79, .inl (c7, 200, .inl (fun _ => 0)))] H := hP
  have hD : va_D A [(h0, .inr (5, [.ref q7, .int 0, .ref q16, .ref q25, .ref q34, .ref q43, .ref q52, .ref q61, .ref q70, .ref q79, .null, .int 0, .int 0, .null, .int 0, .int 0, .int 0, .int 0, .int 0])), (q7, .inl (c7, 64, .inl (fun _ => 0))), (q16, .inl (c7, 200, .inl (fun _ => 0))), (q25, .inl (c7, 200, .inl (fun _ => 0))), (q34, .inl (c7, 200, .inl (fun _ => 0))), (q43, .inl (c7, 200, .inl (fun _ => 0))), (q52, .inl (c7, 200, .inl (fun _ => 0))), (q61, .inl (c7, 200, .inl (fun _ => 0))), (q70, .inl (c7, 1600, .inl (fun _ => 0))), (q79, .inl (c7, 200, .inl (fun _ => 0)))] := hD
  refine lv_aload_n hx hb d_M_init_84 rfl (lv_at hl 0 rfl) ?_
  refine lv_sipush (v := 200) hx hb d_M_init_85 (by decide) ?_
  refine va_newa (atype := .int) (ty := .int) (N' := 200) (a0 := (200, .inl (fun _ => 0))) hx hb (hts _ tb_51) rfl hK hP hD hS hA (fun _ => rfl) (by decide) (by decide) (by decide) (Nat.le_of_ble_eq_true rfl) (Nat.le_of_ble_eq_true rfl) d_M_init_88 (fun q88 c88 H hK hP hD hS => ?_)
  refine W.widen (k := 10) (n := 3264) (by decide) (by decide) ?_
  have e88 : c7 = c88 := arr_eqI hK 0 1 rfl rfl
  subst e88
  have hK : va_K D cls_ [(c7, .int)] s := hK.sub [0] rfl
  have hP : va_P D cls_ [(h0, .inr (5, [.ref q7, .int 0, .ref q16, .ref q25, .ref q34, .ref q43, .ref q52, .ref q61, .ref q70, .ref q79, .null, .int 0, .int 0, .null, .int 0, .int 0, .int 0, .int 0, .int 0])), (q7, .inl (c7, 64, .inl (fun _ => 0))), (q16, .inl (c7, 200, .inl (fun _ => 0))), (q25, .inl (c7, 200, .inl (fun _ => 0))), (q34, .inl (c7, 200, .inl (fun _ => 0))), (q43, .inl (c7, 200, .inl (fun _ => 0))), (q52, .inl (c7, 200, .inl (fun _ => 0))), (q61, .inl (c7, 200, .inl (fun _ => 0))), (q70, .inl (c7, 1600, .inl (fun _ => 0))), (q79, .inl (c7, 200, .inl (fun _ => 0))), (q88, .inl (c7, 200, .inl (fun _ => 0)))] H := hP
  have hD : va_D A [(h0, .inr (5, [.ref q7, .int 0, .ref q16, .ref q25, .ref q34, .ref q43, .ref q52, .ref q61, .ref q70, .ref q79, .null, .int 0, .int 0, .null, .int 0, .int 0, .int 0, .int 0, .int 0])), (q7, .inl (c7, 64, .inl (fun _ => 0))), (q16, .inl (c7, 200, .inl (fun _ => 0))), (q25, .inl (c7, 200, .inl (fun _ => 0))), (q34, .inl (c7, 200, .inl (fun _ => 0))), (q43, .inl (c7, 200, .inl (fun _ => 0))), (q52, .inl (c7, 200, .inl (fun _ => 0))), (q61, .inl (c7, 200, .inl (fun _ => 0))), (q70, .inl (c7, 1600, .inl (fun _ => 0))), (q79, .inl (c7, 200, .inl (fun _ => 0))), (q88, .inl (c7, 200, .inl (fun _ => 0)))] := hD
  refine va_put (D := D) (ci := 5) (v := .ref q88) (ty := .array .int) (C := R_M) (T := F_M) (N := 19) hx hb hts in_M t_M t_M_ok n_M hown hK hP hD hS 0 rfl rfl 10 (by decide) (hts _ tb_379) (fun _ h9 => h9) rfl (by decide +kernel) rfl rfl (Nat.le_of_ble_eq_true rfl) d_M_init_90 (fun H locs hP hD hS => ?_)
  have hP : va_P D cls_ [(h0, .inr (5, [.ref q7, .int 0, .ref q16, .ref q25, .ref q34, .ref q43, .ref q52, .ref q61, .ref q70, .ref q79, .ref q88, .int 0, .int 0, .null, .int 0, .int 0, .int 0, .int 0, .int 0])), (q7, .inl (c7, 64, .inl (fun _ => 0))), (q16, .inl (c7, 200, .inl (fun _ => 0))), (q25, .inl (c7, 200, .inl (fun _ => 0))), (q34, .inl (c7, 200, .inl (fun _ => 0))), (q43, .inl (c7, 200, .inl (fun _ => 0))), (q52, .inl (c7, 200, .inl (fun _ => 0))), (q61, .inl (c7, 200, .inl (fun _ => 0))), (q70, .inl (c7, 1600, .inl (fun _ => 0))), (q79, .inl (c7, 200, .inl (fun _ => 0))), (q88, .inl (c7, 200, .inl (fun _ => 0)))] H := hP
  have hD : va_D A [(h0, .inr (5, [.ref q7, .int 0, .ref q16, .ref q25, .ref q34, .ref q43, .ref q52, .ref q61, .ref q70, .ref q79, .ref q88, .int 0, .int 0, .null, .int 0, .int 0, .int 0, .int 0, .int 0])), (q7, .inl (c7, 64, .inl (fun _ => 0))), (q16, .inl (c7, 200, .inl (fun _ => 0))), (q25, .inl (c7, 200, .inl (fun _ => 0))), (q34, .inl (c7, 200, .inl (fun _ => 0))), (q43, .inl (c7, 200, .inl (fun _ => 0))), (q52, .inl (c7, 200, .inl (fun _ => 0))), (q61, .inl (c7, 200, .inl (fun _ => 0))), (q70, .inl (c7, 1600, .inl (fun _ => 0))), (q79, .inl (c7, 200, .inl (fun _ => 0))), (q88, .inl (c7, 200, .inl (fun _ => 0)))] := hD
  refine lv_aload_n hx hb d_M_init_93 rfl (lv_at hl 0 rfl) ?_
  refine lv_iconst (v := 2) hx hb d_M_init_94 (by decide) ?_
  refine va_newa (atype := .int) (ty := .int) (N' := 2) (a0 := (2, .inl (fun _ => 0))) hx hb (hts _ tb_51) rfl hK hP hD hS hA (fun _ => rfl) (by decide) (by decide) (by decide) (Nat.le_of_ble_eq_true rfl) (Nat.le_of_ble_eq_true rfl) d_M_init_95 (fun q95 c95 H hK hP hD hS => ?_)
  refine W.widen (k := 11) (n := 3266) (by decide) (by decide) ?_
  have e95 : c7 = c95 := arr_eqI hK 0 1 rfl rfl
  subst e95
  have hK : va_K D cls_ [(c7, .int)] s := hK.sub [0] rfl
  have hP : va_P D cls_ [(h0, .inr (5, [.ref q7, .int 0, .ref q16, .ref q25, .ref q34, .ref q43, .ref q52, .ref q61, .ref q70, .ref q79, .ref q88, .int 0, .int 0, .null, .int 0, .int 0, .int 0, .int 0, .int 0])), (q7, .inl (c7, 64, .inl (fun _ => 0))), (q16, .inl (c7, 200, .inl (fun _ => 0))), (q25, .inl (c7, 200, .inl (fun _ => 0))), (q34, .inl (c7, 200, .inl (fun _ => 0))), (q43, .inl (c7, 200, .inl (fun _ => 0))), (q52, .inl (c7, 200, .inl (fun _ => 0))), (q61, .inl (c7, 200, .inl (fun _ => 0))), (q70, .inl (c7, 1600, .inl (fun _ => 0))), (q79, .inl (c7, 200, .inl (fun _ => 0))), (q88, .inl (c7, 200, .inl (fun _ => 0))), (q95, .inl (c7, 2, .inl (fun _ => 0)))] H := hP
  have hD : va_D A [(h0, .inr (5, [.ref q7, .int 0, .ref q16, .ref q25, .ref q34, .ref q43, .ref q52, .ref q61, .ref q70, .ref q79, .ref q88, .int 0, .int 0, .null, .int 0, .int 0, .int 0, .int 0, .int 0])), (q7, .inl (c7, 64, .inl (fun _ => 0))), (q16, .inl (c7, 200, .inl (fun _ => 0))), (q25, .inl (c7, 200, .inl (fun _ => 0))), (q34, .inl (c7, 200, .inl (fun _ => 0))), (q43, .inl (c7, 200, .inl (fun _ => 0))), (q52, .inl (c7, 200, .inl (fun _ => 0))), (q61, .inl (c7, 200, .inl (fun _ => 0))), (q70, .inl (c7, 1600, .inl (fun _ => 0))), (q79, .inl (c7, 200, .inl (fun _ => 0))), (q88, .inl (c7, 200, .inl (fun _ => 0))), (q95, .inl (c7, 2, .inl (fun _ => 0)))] := hD
  refine va_put (D := D) (ci := 5) (v := .ref q95) (ty := .array .int) (C := R_M) (T := F_M) (N := 19) hx hb hts in_M t_M t_M_ok n_M hown hK hP hD hS 0 rfl rfl 13 (by decide) (hts _ tb_382) (fun _ h9 => h9) rfl (by decide +kernel) rfl rfl (Nat.le_of_ble_eq_true rfl) d_M_init_97 (fun H locs hP hD hS => ?_)
  have hP : va_P D cls_ [(h0, .inr (5, [.ref q7, .int 0, .ref q16, .ref q25, .ref q34, .ref q43, .ref q52, .ref q61, .ref q70, .ref q79, .ref q88, .int 0, .int 0, .ref q95, .int 0, .int 0, .int 0, .int 0, .int 0])), (q7, .inl (c7, 64, .inl (fun _ => 0))), (q16, .inl (c7, 200, .inl (fun _ => 0))), (q25, .inl (c7, 200, .inl (fun _ => 0))), (q34, .inl (c7, 200, .inl (fun _ => 0))), (q43, .inl (c7, 200, .inl (fun _ => 0))), (q52, .inl (c7, 200, .inl (fun _ => 0))), (q61, .inl (c7, 200, .inl (fun _ => 0))), (q70, .inl (c7, 1600, .inl (fun _ => 0))), (q79, .inl (c7, 200, .inl (fun _ => 0))), (q88, .inl (c7, 200, .inl (fun _ => 0))), (q95, .inl (c7, 2, .inl (fun _ => 0)))] H := hP
  have hD : va_D A [(h0, .inr (5, [.ref q7, .int 0, .ref q16, .ref q25, .ref q34, .ref q43, .ref q52, .ref q61, .ref q70, .ref q79, .ref q88, .int 0, .int 0, .ref q95, .int 0, .int 0, .int 0, .int 0, .int 0])), (q7, .inl (c7, 64, .inl (fun _ => 0))), (q16, .inl (c7, 200, .inl (fun _ => 0))), (q25, .inl (c7, 200, .inl (fun _ => 0))), (q34, .inl (c7, 200, .inl (fun _ => 0))), (q43, .inl (c7, 200, .inl (fun _ => 0))), (q52, .inl (c7, 200, .inl (fun _ => 0))), (q61, .inl (c7, 200, .inl (fun _ => 0))), (q70, .inl (c7, 1600, .inl (fun _ => 0))), (q79, .inl (c7, 200, .inl (fun _ => 0))), (q88, .inl (c7, 200, .inl (fun _ => 0))), (q95, .inl (c7, 2, .inl (fun _ => 0)))] := hD
  refine lv_aload_n hx hb d_M_init_100 rfl (lv_at hl 0 rfl) ?_
  refine lv_iconst (v := (-1)) hx hb d_M_init_101 (by decide) ?_
  refine va_put (D := D) (ci := 5) (v := .int (-1)) (ty := .int) (C := R_M) (T := F_M) (N := 19) hx hb hts in_M t_M t_M_ok n_M hown hK hP hD hS 0 rfl rfl 18 (by decide) (hts _ tb_387) (fun _ h9 => h9) rfl (by decide +kernel) rfl rfl (Nat.le_of_ble_eq_true rfl) d_M_init_102 (fun H locs hP hD hS => ?_)
  have hP : va_P D cls_ [(h0, .inr (5, [.ref q7, .int 0, .ref q16, .ref q25, .ref q34, .ref q43, .ref q52, .ref q61, .ref q70, .ref q79, .ref q88, .int 0, .int 0, .ref q95, .int 0, .int 0, .int 0, .int 0, .int (-1)])), (q7, .inl (c7, 64, .inl (fun _ => 0))), (q16, .inl (c7, 200, .inl (fun _ => 0))), (q25, .inl (c7, 200, .inl (fun _ => 0))), (q34, .inl (c7, 200, .inl (fun _ => 0))), (q43, .inl (c7, 200, .inl (fun _ => 0))), (q52, .inl (c7, 200, .inl (fun _ => 0))), (q61, .inl (c7, 200, .inl (fun _ => 0))), (q70, .inl (c7, 1600, .inl (fun _ => 0))), (q79, .inl (c7, 200, .inl (fun _ => 0))), (q88, .inl (c7, 200, .inl (fun _ => 0))), (q95, .inl (c7, 2, .inl (fun _ => 0)))] H := hP
  have hD : va_D A [(h0, .inr (5, [.ref q7, .int 0, .ref q16, .ref q25, .ref q34, .ref q43, .ref q52, .ref q61, .ref q70, .ref q79, .ref q88, .int 0, .int 0, .ref q95, .int 0, .int 0, .int 0, .int 0, .int (-1)])), (q7, .inl (c7, 64, .inl (fun _ => 0))), (q16, .inl (c7, 200, .inl (fun _ => 0))), (q25, .inl (c7, 200, .inl (fun _ => 0))), (q34, .inl (c7, 200, .inl (fun _ => 0))), (q43, .inl (c7, 200, .inl (fun _ => 0))), (q52, .inl (c7, 200, .inl (fun _ => 0))), (q61, .inl (c7, 200, .inl (fun _ => 0))), (q70, .inl (c7, 1600, .inl (fun _ => 0))), (q79, .inl (c7, 200, .inl (fun _ => 0))), (q88, .inl (c7, 200, .inl (fun _ => 0))), (q95, .inl (c7, 2, .inl (fun _ => 0)))] := hD
  refine lv_aload_n hx hb d_M_init_105 rfl (lv_at hl 0 rfl) ?_
  refine va_get (D := D) (ci := 5) (C := R_M) (T := F_M) (N := 19) hx hb hts in_M hown hK hP 0 rfl rfl 13 (by decide) (hts _ tb_382) (fun _ h9 => h9) rfl d_M_init_106 ?_
  refine lv_iconst (v := 0) hx hb d_M_init_109 (by decide) ?_
  refine lv_bipush (v := 50) hx hb d_M_init_110 (by decide) ?_
  refine va_iast hx hb hK hP hD hS 11 0 rfl rfl (vp_in_nI (n := 0) (by decide) (by decide)) d_M_init_112 (fun H locs hP hD hS => ?_)
  have hP : va_P D cls_ [(h0, .inr (5, [.ref q7, .int 0, .ref q16, .ref q25, .ref q34, .ref q43, .ref q52, .ref q61, .ref q70, .ref q79, .ref q88, .int 0, .int 0, .ref q95, .int 0, .int 0, .int 0, .int 0, .int (-1)])), (q7, .inl (c7, 64, .inl (fun _ => 0))), (q16, .inl (c7, 200, .inl (fun _ => 0))), (q25, .inl (c7, 200, .inl (fun _ => 0))), (q34, .inl (c7, 200, .inl (fun _ => 0))), (q43, .inl (c7, 200, .inl (fun _ => 0))), (q52, .inl (c7, 200, .inl (fun _ => 0))), (q61, .inl (c7, 200, .inl (fun _ => 0))), (q70, .inl (c7, 1600, .inl (fun _ => 0))), (q79, .inl (c7, 200, .inl (fun _ => 0))), (q88, .inl (c7, 200, .inl (fun _ => 0))), (q95, .inl (c7, 2, .inl (upd (fun _ => 0) (0 : Int32).toNatClampNeg 50)))] H := hP
  have hD : va_D A [(h0, .inr (5, [.ref q7, .int 0, .ref q16, .ref q25, .ref q34, .ref q43, .ref q52, .ref q61, .ref q70, .ref q79, .ref q88, .int 0, .int 0, .ref q95, .int 0, .int 0, .int 0, .int 0, .int (-1)])), (q7, .inl (c7, 64, .inl (fun _ => 0))), (q16, .inl (c7, 200, .inl (fun _ => 0))), (q25, .inl (c7, 200, .inl (fun _ => 0))), (q34, .inl (c7, 200, .inl (fun _ => 0))), (q43, .inl (c7, 200, .inl (fun _ => 0))), (q52, .inl (c7, 200, .inl (fun _ => 0))), (q61, .inl (c7, 200, .inl (fun _ => 0))), (q70, .inl (c7, 1600, .inl (fun _ => 0))), (q79, .inl (c7, 200, .inl (fun _ => 0))), (q88, .inl (c7, 200, .inl (fun _ => 0))), (q95, .inl (c7, 2, .inl (upd (fun _ => 0) (0 : Int32).toNatClampNeg 50)))] := hD
  refine lv_aload_n hx hb d_M_init_113 rfl (lv_at hl 0 rfl) ?_
  refine va_get (D := D) (ci := 5) (C := R_M) (T := F_M) (N := 19) hx hb hts in_M hown hK hP 0 rfl rfl 13 (by decide) (hts _ tb_382) (fun _ h9 => h9) rfl d_M_init_114 ?_
  refine lv_iconst (v := 1) hx hb d_M_init_117 (by decide) ?_
  refine lv_sipush (v := 500) hx hb d_M_init_118 (by decide) ?_
  refine va_iast hx hb hK hP hD hS 11 0 rfl rfl (vp_in_nI (n := 1) (by decide) (by decide)) d_M_init_121 (fun H locs hP hD hS => ?_)
  have hP : va_P D cls_ [(h0, .inr (5, [.ref q7, .int 0, .ref q16, .ref q25, .ref q34, .ref q43, .ref q52, .ref q61, .ref q70, .ref q79, .ref q88, .int 0, .int 0, .ref q95, .int 0, .int 0, .int 0, .int 0, .int (-1)])), (q7, .inl (c7, 64, .inl (fun _ => 0))), (q16, .inl (c7, 200, .inl (fun _ => 0))), (q25, .inl (c7, 200, .inl (fun _ => 0))), (q34, .inl (c7, 200, .inl (fun _ => 0))), (q43, .inl (c7, 200, .inl (fun _ => 0))), (q52, .inl (c7, 200, .inl (fun _ => 0))), (q61, .inl (c7, 200, .inl (fun _ => 0))), (q70, .inl (c7, 1600, .inl (fun _ => 0))), (q79, .inl (c7, 200, .inl (fun _ => 0))), (q88, .inl (c7, 200, .inl (fun _ => 0))), (q95, .inl (c7, 2, .inl (upd (upd (fun _ => 0) (0 : Int32).toNatClampNeg 50) (1 : Int32).toNatClampNeg 500)))] H := hP
  have hD : va_D A [(h0, .inr (5, [.ref q7, .int 0, .ref q16, .ref q25, .ref q34, .ref q43, .ref q52, .ref q61, .ref q70, .ref q79, .ref q88, .int 0, .int 0, .ref q95, .int 0, .int 0, .int 0, .int 0, .int (-1)])), (q7, .inl (c7, 64, .inl (fun _ => 0))), (q16, .inl (c7, 200, .inl (fun _ => 0))), (q25, .inl (c7, 200, .inl (fun _ => 0))), (q34, .inl (c7, 200, .inl (fun _ => 0))), (q43, .inl (c7, 200, .inl (fun _ => 0))), (q52, .inl (c7, 200, .inl (fun _ => 0))), (q61, .inl (c7, 200, .inl (fun _ => 0))), (q70, .inl (c7, 1600, .inl (fun _ => 0))), (q79, .inl (c7, 200, .inl (fun _ => 0))), (q88, .inl (c7, 200, .inl (fun _ => 0))), (q95, .inl (c7, 2, .inl (upd (upd (fun _ => 0) (0 : Int32).toNatClampNeg 50) (1 : Int32).toNatClampNeg 500)))] := hD
  have hP9 := hP.sub (ws' := [(h0, .inr (5, [.ref q7, .int 0, .ref q16, .ref q25, .ref q34, .ref q43, .ref q52, .ref q61, .ref q70, .ref q79, .ref q88, .int 0, .int 0, .ref q95, .int 0, .int 0, .int 0, .int 0, .int (-1)])), (q7, .inl (c7, 64, .inl (fun _ => 0))), (q16, .inl (c7, 200, .inl (fun _ => 0))), (q25, .inl (c7, 200, .inl (fun _ => 0))), (q34, .inl (c7, 200, .inl (fun _ => 0))), (q43, .inl (c7, 200, .inl (fun _ => 0))), (q52, .inl (c7, 200, .inl (fun _ => 0))), (q61, .inl (c7, 200, .inl (fun _ => 0))), (q70, .inl (c7, 1600, .inl (fun _ => 0))), (q79, .inl (c7, 200, .inl (fun _ => 0))), (q88, .inl (c7, 200, .inl (fun _ => 0))), (q95, .inl (c7, 2, .inl (upd (upd (fun _ => 0) (0 : Int32).toNatClampNeg 50) (1 : Int32).toNatClampNeg 500)))]) [0, 1, 2, 3, 4, 5, 6, 7, 8, 9, 10, 11] rfl
  have hD9 := hD.sub (ws' := [(h0, .inr (5, [.ref q7, .int 0, .ref q16, .ref q25, .ref q34, .ref q43, .ref q52, .ref q61, .ref q70, .ref q79, .ref q88, .int 0, .int 0, .ref q95, .int 0, .int 0, .int 0, .int 0, .int (-1)])), (q7, .inl (c7, 64, .inl (fun _ => 0))), (q16, .inl (c7, 200, .inl (fun _ => 0))), (q25, .inl (c7, 200, .inl (fun _ => 0))), (q34, .inl (c7, 200, .inl (fun _ => 0))), (q43, .inl (c7, 200, .inl (fun _ => 0))), (q52, .inl (c7, 200, .inl (fun _ => 0))), (q61, .inl (c7, 200, .inl (fun _ => 0))), (q70, .inl (c7, 1600, .inl (fun _ => 0))), (q79, .inl (c7, 200, .inl (fun _ => 0))), (q88, .inl (c7, 200, .inl (fun _ => 0))), (q95, .inl (c7, 2, .inl (upd (upd (fun _ => 0) (0 : Int32).toNatClampNeg 50) (1 : Int32).toNatClampNeg 500)))]) [0, 1, 2, 3, 4, 5, 6, 7, 8, 9, 10, 11] (by decide) rfl
  have hK9 : va_K D cls_ [(c7, .int)] s := hK
  exact W.vret hx hb hr (fun t ht hW => ⟨⟨((fun k : Nat => match k with | 0 => h0 | 1 => q7 | 2 => q16 | 3 => q25 | 4 => q34 | 5 => q43 | 6 => q52 | 7 => q61 | 8 => q70 | 9 => q79 | 10 => q88 | _ => q95), c7, c7), rfl, rfl, by rw [ht]; exact hP9, va_K.moved hW.alike hK9, hD9⟩, hS.F ht⟩) hS.2.2 d_M_init_122
