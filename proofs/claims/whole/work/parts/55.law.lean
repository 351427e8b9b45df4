abbrev R_L : String := "DeadlineElevatorLaw"
theorem wE_get {a : Nat → Nat} {cI cZ : ClassId} {g : St} (k : Nat) (hk : k < 20) : ∃ e : va_E, (wE a cI cZ g)[k]? = some (a k, e) := by
  match k, hk with
  | 0, _ => exact ⟨_, rfl⟩
  | 1, _ => exact ⟨_, rfl⟩
  | 2, _ => exact ⟨_, rfl⟩
  | 3, _ => exact ⟨_, rfl⟩
  | 4, _ => exact ⟨_, rfl⟩
  | 5, _ => exact ⟨_, rfl⟩
  | 6, _ => exact ⟨_, rfl⟩
  | 7, _ => exact ⟨_, rfl⟩
  | 8, _ => exact ⟨_, rfl⟩
  | 9, _ => exact ⟨_, rfl⟩
  | 10, _ => exact ⟨_, rfl⟩
  | 11, _ => exact ⟨_, rfl⟩
  | 12, _ => exact ⟨_, rfl⟩
  | 13, _ => exact ⟨_, rfl⟩
  | 14, _ => exact ⟨_, rfl⟩
  | 15, _ => exact ⟨_, rfl⟩
  | 16, _ => exact ⟨_, rfl⟩
  | 17, _ => exact ⟨_, rfl⟩
  | 18, _ => exact ⟨_, rfl⟩
  | 19, _ => exact ⟨_, rfl⟩
  | k + 20, h => exact absurd h (by omega)
theorem wM_get {a : Nat → Nat} {cI cZ : ClassId} {g : St} (k : Nat) (hk : k < 12) : ∃ e : va_E, (wM a cI cZ g)[k]? = some (a k, e) := by
  match k, hk with
  | 0, _ => exact ⟨_, rfl⟩
  | 1, _ => exact ⟨_, rfl⟩
  | 2, _ => exact ⟨_, rfl⟩
  | 3, _ => exact ⟨_, rfl⟩
  | 4, _ => exact ⟨_, rfl⟩
  | 5, _ => exact ⟨_, rfl⟩
  | 6, _ => exact ⟨_, rfl⟩
  | 7, _ => exact ⟨_, rfl⟩
  | 8, _ => exact ⟨_, rfl⟩
  | 9, _ => exact ⟨_, rfl⟩
  | 10, _ => exact ⟨_, rfl⟩
  | 11, _ => exact ⟨_, rfl⟩
  | k + 12, h => exact absurd h (by omega)
theorem ab_of {A : Nat → Prop} {a b2 : Nat → Nat} {cI cZ : ClassId} {g h : St} (hD : va_D A (wE a cI cZ g ++ wM b2 cI cZ h)) : ∀ i j : Nat, i < 20 → j < 12 → a i ≠ b2 j := by
  intro i j hi hj e
  obtain ⟨x, hx⟩ := wE_get (a := a) (cI := cI) (cZ := cZ) (g := g) i hi
  obtain ⟨y, hy⟩ := wM_get (a := b2) (cI := cI) (cZ := cZ) (g := h) j hj
  have h1 : (wE a cI cZ g ++ wM b2 cI cZ h)[i]? = some (a i, x) := by rw [List.getElem?_append_left (show i < (wE a cI cZ g).length from hi)]; exact hx
  have h2 : (wE a cI cZ g ++ wM b2 cI cZ h)[20 + j]? = some (b2 j, y) := by
    rw [List.getElem?_append_right (show (wE a cI cZ g).length ≤ 20 + j from Nat.le_add_right 20 j)]
    have e2 : 20 + j - (wE a cI cZ g).length = j := Nat.add_sub_cancel_left 20 j
    rw [e2]; exact hy
  have := hD.1 i (20 + j) _ _ h1 h2 e
  omega
set_option maxHeartbeats 8000000 in
set_option maxRecDepth 100000 in
theorem law_loop {p : Program} {e : Env} {s : State} {m : MethodId} {args : Array Value} {below : List Frame} {meth : Method} {c : Code} (l : Launch) {D : va_G} {A : Nat → Prop} {a b2 : Nat → Nat} {cI cZ : ClassId} {Qt : State → Prop} {b L : Nat} {xs : Nat → Int32} (hL : L ≤ 2048) (hx : p.tables.exec = Jvm.exec) (hb : c.code = code) (hml : c.maxLocals = 4) (hown : s.vm.findClass R_L = some m.cls) (hts : ∀ w ∈ TB, w.before args s = true) (hN : NW s) (hK : va_K D cls_ (ty_ cI cZ) s) (hX : va_X b L xs s s.heap) (hbl : b < s.heap.size) (hbA : ¬ A b) (hA : ∀ q : Nat, s.heap.size ≤ q → A q) (hab : ∀ i j : Nat, i < 20 → j < 12 → a i ≠ b2 j)
    (hend : ∀ (H : Heap) (locs : List Loc) (ls : Array Slot), va_S A s.heap H locs → W p l e room_1 s m args below meth c H locs 32 7405 Qt (F0 m 514 ls [.int 1])) :
    ∀ (n k : Nat) (g h : St) (H : Heap) (locs : List Loc) (ls : Array Slot), L / 4 + 1 - k < n → k ≤ 512 → Rel k g h → va_P D cls_ (wE a cI cZ g) H → va_D A (wE a cI cZ g) → va_P D cls_ (wM b2 cI cZ h) H → va_D A (wM b2 cI cZ h) → va_S A s.heap H locs → lv_has ls 4 [(0, .ref b), (1, .ref (a 0)), (2, .ref (b2 0)), (3, .int (nI (4 * k)))] → W p l e room_1 s m args below meth c H locs 32 7405 Qt (F0 m 18 ls []) := by
  intro n
  induction n with
  | zero => intro k g h H locs ls hn; exact absurd hn (Nat.not_lt_zero _)
  | succ n ih =>
    intro k g h H locs ls hn hk5 hR hPE hDE hPM hDM hS hl
    refine lv_iload_n hx hb d_L_18 rfl (lv_at hl 3 rfl) ?_
    refine lv_aload_n hx hb d_L_19 rfl (lv_at hl 0 rfl) ?_
    refine va_slen hx hb hX hbl hbA hS d_L_20 ?_
    refine lv_iconst (v := 4) hx hb d_L_21 (by decide) ?_
    refine lv_isub hx hb d_L_22 ?_
    refine lv_icmp_gt (tgt := 513) hx hb d_L_23 (by decide) (fun hc => ?_) (fun hc => ?_)
    · refine lv_iconst (v := 1) hx hb d_L_513 (by decide) ?_
      exact hend _ _ _ hS
    · have h4 : 4 * k + 4 ≤ L := law_fit hL hk5 hc
      have hi0 : vp_in (nI (4 * k)) L := law_in (k := k) 0 (by omega) (by omega)
      have hi1 : vp_in (nI (4 * k) + 1) L := law_in (k := k) 1 (by omega) (by omega)
      have hi2 : vp_in (nI (4 * k) + 2) L := law_in (k := k) 2 (by omega) (by omega)
      have hi3 : vp_in (nI (4 * k) + 3) L := law_in (k := k) 3 (by omega) (by omega)
      have k_507 : ∀ (g h : St) (H : Heap) (locs : List Loc) (ls : Array Slot), Rel (k + 1) g h → va_P D cls_ (wE a cI cZ g) H → va_D A (wE a cI cZ g) → va_P D cls_ (wM b2 cI cZ h) H → va_D A (wM b2 cI cZ h) → va_S A s.heap H locs → lv_has ls 4 [(0, .ref b), (1, .ref (a 0)), (2, .ref (b2 0)), (3, .int (nI (4 * k)))] → W p l e room_1 s m args below meth c H locs 32 7405 Qt (F0 m 507 ls []) := by
        intro g h H locs ls hR hPE hDE hPM hDM hS hl
        refine lv_iinc (k := 3) (v := nI (4 * (k + 1))) (lv' := [(3, .int (nI (4 * (k + 1)))), (0, .ref b), (1, .ref (a 0)), (2, .ref (b2 0))]) hx hb d_L_507 hl rfl (law_inc k) (by decide) rfl (fun ls hl => ?_)
        refine lv_goto (tgt := 18) hx hb d_L_510 (by decide) ?_
        exact ih (k + 1) g h _ _ _ (by omega) (by omega) hR hPE hDE hPM hDM hS (lv_sub hl [1, 2, 3, 0] rfl)
      refine lv_aload_n hx hb d_L_26 rfl (lv_at hl 0 rfl) ?_
      refine lv_iload_n hx hb d_L_27 rfl (lv_at hl 3 rfl) ?_
      refine va_sld hx hb hX hbl hbA hS hi0 d_L_28 ?_
      refine lv_bipush (v := 31) hx hb d_L_29 (by decide) ?_
      refine lv_iand hx hb d_L_31 ?_
      generalize xs (nI (4 * k)).toNatClampNeg &&& 31 = z
      rcases sw_17 z with hc | hc | hc | hc | hc | hc | hc | hc | hc | hc | hc | hc | hc | hc | hc | hc | hc | hc
      · refine lv_tableOut (tgt := 507) hx hb d_L_32 hc (by decide) ?_
        exact k_507 g h _ _ _ (Rel_mono hR) hPE hDE hPM hDM hS hl
      · refine lv_tableIn (off := 84) (tgt := 116) hx hb d_L_32 (by rw [hc]; decide) (by rw [hc]; decide) (by rw [hc]; rfl) (by decide) ?_
        refine lv_aload_n hx hb d_L_116 rfl (lv_at hl 1 rfl) ?_
        refine lv_aload_n hx hb d_L_117 rfl (lv_at hl 0 rfl) ?_
        refine lv_iload_n hx hb d_L_118 rfl (lv_at hl 3 rfl) ?_
        refine lv_iconst (v := 1) hx hb d_L_119 (by decide) ?_
        refine lv_iadd hx hb d_L_120 ?_
        refine va_sld hx hb hX hbl hbA hS hi1 d_L_121 ?_
        refine lv_aload_n hx hb d_L_122 rfl (lv_at hl 0 rfl) ?_
        refine lv_iload_n hx hb d_L_123 rfl (lv_at hl 3 rfl) ?_
        refine lv_iconst (v := 2) hx hb d_L_124 (by decide) ?_
        refine lv_iadd hx hb d_L_125 ?_
        refine va_sld hx hb hX hbl hbA hS hi2 d_L_126 ?_
        have hw := st_read hk5 hR (xs (nI (4 * k) + 1).toNatClampNeg) (xs (nI (4 * k) + 2).toNatClampNeg)
        refine aft2_i (vv := wM b2 cI cZ h) (va_runV (As := [.int (xs (nI (4 * k) + 1).toNatClampNeg), .int (xs (nI (4 * k) + 2).toNatClampNeg)]) (rest := []) ⟨hx, hb, hml, hown, hts⟩ (c_E_read l D a cI cZ H.size g (xs (nI (4 * k) + 1).toNatClampNeg) (xs (nI (4 * k) + 2).toNatClampNeg) _ hw) ⟨callB_of 2 hts good_E_read rfl rfl rfl (hts _ tb_1) (hts _ tb_162) hd_E_read ⟨Nat.le_of_ble_eq_true rfl, Nat.le_of_ble_eq_true rfl⟩, hts _ tb_163, hts _ tb_164⟩ (preV 0 4 hPE hDE hK hN rfl rfl) rfl rfl hl.1 rfl (lv_room (Nat.le_of_ble_eq_true rfl)) d_L_127 ⟨Nat.le_of_ble_eq_true rfl, Nat.le_of_ble_eq_true rfl⟩) hDE hS hA hPM (apME hab) (fun r1 u1 H locs hw hPE hDE hPM hS => ?_)
        refine lv_aload_n hx hb d_L_130 rfl (lv_at hl 2 rfl) ?_
        refine lv_aload_n hx hb d_L_131 rfl (lv_at hl 0 rfl) ?_
        refine lv_iload_n hx hb d_L_132 rfl (lv_at hl 3 rfl) ?_
        refine lv_iconst (v := 1) hx hb d_L_133 (by decide) ?_
        refine lv_iadd hx hb d_L_134 ?_
        refine va_sld hx hb hX hbl hbA hS hi1 d_L_135 ?_
        refine lv_aload_n hx hb d_L_136 rfl (lv_at hl 0 rfl) ?_
        refine lv_iload_n hx hb d_L_137 rfl (lv_at hl 3 rfl) ?_
        refine lv_iconst (v := 2) hx hb d_L_138 (by decide) ?_
        refine lv_iadd hx hb d_L_139 ?_
        refine va_sld hx hb hX hbl hbA hS hi2 d_L_140 ?_
        refine aft2_i (vv := wE a cI cZ u1) (va_runV (As := [.int (xs (nI (4 * k) + 1).toNatClampNeg), .int (xs (nI (4 * k) + 2).toNatClampNeg)]) (rest := [.int r1]) ⟨hx, hb, hml, hown, hts⟩ (c_M_read l D b2 cI cZ H.size h (xs (nI (4 * k) + 1).toNatClampNeg) (xs (nI (4 * k) + 2).toNatClampNeg) _ hw) ⟨callB_of 2 hts good_M_read rfl rfl rfl (hts _ tb_6) (hts _ tb_427) hd_M_read ⟨Nat.le_of_ble_eq_true rfl, Nat.le_of_ble_eq_true rfl⟩, hts _ tb_428, hts _ tb_429⟩ (preV 0 5 hPM hDM hK hN rfl rfl) rfl rfl hl.1 rfl (lv_room (Nat.le_of_ble_eq_true rfl)) d_L_141 ⟨Nat.le_of_ble_eq_true rfl, Nat.le_of_ble_eq_true rfl⟩) hDM hS hA hPE (apEM hab) (fun r2 u2 H locs hw hPM hDM hPE hS => ?_)
        refine lv_icmp_eq (tgt := 507) hx hb d_L_144 (by decide) (fun hc => ?_) (fun hc => absurd hw.1 hc)
        exact k_507 u1 u2 _ _ _ hw.2 hPE hDE hPM hDM hS hl
      · refine lv_tableIn (off := 117) (tgt := 149) hx hb d_L_32 (by rw [hc]; decide) (by rw [hc]; decide) (by rw [hc]; rfl) (by decide) ?_
        refine lv_aload_n hx hb d_L_149 rfl (lv_at hl 1 rfl) ?_
        refine lv_aload_n hx hb d_L_150 rfl (lv_at hl 0 rfl) ?_
        refine lv_iload_n hx hb d_L_151 rfl (lv_at hl 3 rfl) ?_
        refine lv_iconst (v := 1) hx hb d_L_152 (by decide) ?_
        refine lv_iadd hx hb d_L_153 ?_
        refine va_sld hx hb hX hbl hbA hS hi1 d_L_154 ?_
        refine lv_aload_n hx hb d_L_155 rfl (lv_at hl 0 rfl) ?_
        refine lv_iload_n hx hb d_L_156 rfl (lv_at hl 3 rfl) ?_
        refine lv_iconst (v := 2) hx hb d_L_157 (by decide) ?_
        refine lv_iadd hx hb d_L_158 ?_
        refine va_sld hx hb hX hbl hbA hS hi2 d_L_159 ?_
        refine lv_aload_n hx hb d_L_160 rfl (lv_at hl 0 rfl) ?_
        refine lv_iload_n hx hb d_L_161 rfl (lv_at hl 3 rfl) ?_
        refine lv_iconst (v := 3) hx hb d_L_162 (by decide) ?_
        refine lv_iadd hx hb d_L_163 ?_
        refine va_sld hx hb hX hbl hbA hS hi3 d_L_164 ?_
        have hw := st_write hk5 hR (xs (nI (4 * k) + 1).toNatClampNeg) (xs (nI (4 * k) + 2).toNatClampNeg) (xs (nI (4 * k) + 3).toNatClampNeg)
        refine aft2_i (vv := wM b2 cI cZ h) (va_runV (As := [.int (xs (nI (4 * k) + 1).toNatClampNeg), .int (xs (nI (4 * k) + 2).toNatClampNeg), .int (xs (nI (4 * k) + 3).toNatClampNeg)]) (rest := []) ⟨hx, hb, hml, hown, hts⟩ (c_E_write l D a cI cZ H.size g (xs (nI (4 * k) + 1).toNatClampNeg) (xs (nI (4 * k) + 2).toNatClampNeg) (xs (nI (4 * k) + 3).toNatClampNeg) _ hw) ⟨callB_of 3 hts good_E_write rfl rfl rfl (hts _ tb_1) (hts _ tb_228) hd_E_write ⟨Nat.le_of_ble_eq_true rfl, Nat.le_of_ble_eq_true rfl⟩, hts _ tb_229, hts _ tb_230⟩ (preV 0 4 hPE hDE hK hN rfl rfl) rfl rfl hl.1 rfl (lv_room (Nat.le_of_ble_eq_true rfl)) d_L_165 ⟨Nat.le_of_ble_eq_true rfl, Nat.le_of_ble_eq_true rfl⟩) hDE hS hA hPM (apME hab) (fun r1 u1 H locs hw hPE hDE hPM hS => ?_)
        refine lv_aload_n hx hb d_L_168 rfl (lv_at hl 2 rfl) ?_
        refine lv_aload_n hx hb d_L_169 rfl (lv_at hl 0 rfl) ?_
        refine lv_iload_n hx hb d_L_170 rfl (lv_at hl 3 rfl) ?_
        refine lv_iconst (v := 1) hx hb d_L_171 (by decide) ?_
        refine lv_iadd hx hb d_L_172 ?_
        refine va_sld hx hb hX hbl hbA hS hi1 d_L_173 ?_
        refine lv_aload_n hx hb d_L_174 rfl (lv_at hl 0 rfl) ?_
        refine lv_iload_n hx hb d_L_175 rfl (lv_at hl 3 rfl) ?_
        refine lv_iconst (v := 2) hx hb d_L_176 (by decide) ?_
        refine lv_iadd hx hb d_L_177 ?_
        refine va_sld hx hb hX hbl hbA hS hi2 d_L_178 ?_
        refine lv_aload_n hx hb d_L_179 rfl (lv_at hl 0 rfl) ?_
        refine lv_iload_n hx hb d_L_180 rfl (lv_at hl 3 rfl) ?_
        refine lv_iconst (v := 3) hx hb d_L_181 (by decide) ?_
        refine lv_iadd hx hb d_L_182 ?_
        refine va_sld hx hb hX hbl hbA hS hi3 d_L_183 ?_
        refine aft2_i (vv := wE a cI cZ u1) (va_runV (As := [.int (xs (nI (4 * k) + 1).toNatClampNeg), .int (xs (nI (4 * k) + 2).toNatClampNeg), .int (xs (nI (4 * k) + 3).toNatClampNeg)]) (rest := [.int r1]) ⟨hx, hb, hml, hown, hts⟩ (c_M_write l D b2 cI cZ H.size h (xs (nI (4 * k) + 1).toNatClampNeg) (xs (nI (4 * k) + 2).toNatClampNeg) (xs (nI (4 * k) + 3).toNatClampNeg) _ hw) ⟨callB_of 3 hts good_M_write rfl rfl rfl (hts _ tb_6) (hts _ tb_463) hd_M_write ⟨Nat.le_of_ble_eq_true rfl, Nat.le_of_ble_eq_true rfl⟩, hts _ tb_464, hts _ tb_465⟩ (preV 0 5 hPM hDM hK hN rfl rfl) rfl rfl hl.1 rfl (lv_room (Nat.le_of_ble_eq_true rfl)) d_L_184 ⟨Nat.le_of_ble_eq_true rfl, Nat.le_of_ble_eq_true rfl⟩) hDM hS hA hPE (apEM hab) (fun r2 u2 H locs hw hPM hDM hPE hS => ?_)
        refine lv_icmp_eq (tgt := 507) hx hb d_L_187 (by decide) (fun hc => ?_) (fun hc => absurd hw.1 hc)
        exact k_507 u1 u2 _ _ _ hw.2 hPE hDE hPM hDM hS hl
      · refine lv_tableIn (off := 160) (tgt := 192) hx hb d_L_32 (by rw [hc]; decide) (by rw [hc]; decide) (by rw [hc]; rfl) (by decide) ?_
        refine lv_aload_n hx hb d_L_192 rfl (lv_at hl 1 rfl) ?_
        have hw := st_barrier hR
        refine aft2_i (vv := wM b2 cI cZ h) (va_runV (As := []) (rest := []) ⟨hx, hb, hml, hown, hts⟩ (c_E_barrier l D a cI cZ H.size g _ hw) ⟨callB_of 0 hts good_E_barrier rfl rfl rfl (hts _ tb_1) (hts _ tb_232) hd_E_barrier ⟨Nat.le_of_ble_eq_true rfl, Nat.le_of_ble_eq_true rfl⟩, hts _ tb_233, hts _ tb_234⟩ (preV 0 4 hPE hDE hK hN rfl rfl) rfl rfl hl.1 rfl (lv_room (Nat.le_of_ble_eq_true rfl)) d_L_193 ⟨Nat.le_of_ble_eq_true rfl, Nat.le_of_ble_eq_true rfl⟩) hDE hS hA hPM (apME hab) (fun r1 u1 H locs hw hPE hDE hPM hS => ?_)
        refine lv_aload_n hx hb d_L_196 rfl (lv_at hl 2 rfl) ?_
        refine aft2_i (vv := wE a cI cZ u1) (va_runV (As := []) (rest := [.int r1]) ⟨hx, hb, hml, hown, hts⟩ (c_M_barrier l D b2 cI cZ H.size h _ hw) ⟨callB_of 0 hts good_M_barrier rfl rfl rfl (hts _ tb_6) (hts _ tb_467) hd_M_barrier ⟨Nat.le_of_ble_eq_true rfl, Nat.le_of_ble_eq_true rfl⟩, hts _ tb_468, hts _ tb_469⟩ (preV 0 5 hPM hDM hK hN rfl rfl) rfl rfl hl.1 rfl (lv_room (Nat.le_of_ble_eq_true rfl)) d_L_197 ⟨Nat.le_of_ble_eq_true rfl, Nat.le_of_ble_eq_true rfl⟩) hDM hS hA hPE (apEM hab) (fun r2 u2 H locs hw hPM hDM hPE hS => ?_)
        refine lv_icmp_eq (tgt := 507) hx hb d_L_200 (by decide) (fun hc => ?_) (fun hc => absurd hw.1 hc)
        exact k_507 u1 u2 _ _ _ hw.2 hPE hDE hPM hDM hS hl
      · refine lv_tableIn (off := 173) (tgt := 205) hx hb d_L_32 (by rw [hc]; decide) (by rw [hc]; decide) (by rw [hc]; rfl) (by decide) ?_
        refine lv_aload_n hx hb d_L_205 rfl (lv_at hl 1 rfl) ?_
        refine lv_aload_n hx hb d_L_206 rfl (lv_at hl 0 rfl) ?_
        refine lv_iload_n hx hb d_L_207 rfl (lv_at hl 3 rfl) ?_
        refine lv_iconst (v := 1) hx hb d_L_208 (by decide) ?_
        refine lv_iadd hx hb d_L_209 ?_
        refine va_sld hx hb hX hbl hbA hS hi1 d_L_210 ?_
        refine lv_aload_n hx hb d_L_211 rfl (lv_at hl 0 rfl) ?_
        refine lv_iload_n hx hb d_L_212 rfl (lv_at hl 3 rfl) ?_
        refine lv_iconst (v := 2) hx hb d_L_213 (by decide) ?_
        refine lv_iadd hx hb d_L_214 ?_
        refine va_sld hx hb hX hbl hbA hS hi2 d_L_215 ?_
        have hw := st_expire hR (xs (nI (4 * k) + 1).toNatClampNeg) (xs (nI (4 * k) + 2).toNatClampNeg)
        refine aft2_i (vv := wM b2 cI cZ h) (va_runV (As := [.int (xs (nI (4 * k) + 1).toNatClampNeg), .int (xs (nI (4 * k) + 2).toNatClampNeg)]) (rest := []) ⟨hx, hb, hml, hown, hts⟩ (c_E_expire l D a cI cZ H.size g (xs (nI (4 * k) + 1).toNatClampNeg) (xs (nI (4 * k) + 2).toNatClampNeg) _ hw) ⟨callB_of 2 hts good_E_expire rfl rfl rfl (hts _ tb_1) (hts _ tb_236) hd_E_expire ⟨Nat.le_of_ble_eq_true rfl, Nat.le_of_ble_eq_true rfl⟩, hts _ tb_237, hts _ tb_238⟩ (preV 0 4 hPE hDE hK hN rfl rfl) rfl rfl hl.1 rfl (lv_room (Nat.le_of_ble_eq_true rfl)) d_L_216 ⟨Nat.le_of_ble_eq_true rfl, Nat.le_of_ble_eq_true rfl⟩) hDE hS hA hPM (apME hab) (fun r1 u1 H locs hw hPE hDE hPM hS => ?_)
        refine lv_aload_n hx hb d_L_219 rfl (lv_at hl 2 rfl) ?_
        refine lv_aload_n hx hb d_L_220 rfl (lv_at hl 0 rfl) ?_
        refine lv_iload_n hx hb d_L_221 rfl (lv_at hl 3 rfl) ?_
        refine lv_iconst (v := 1) hx hb d_L_222 (by decide) ?_
        refine lv_iadd hx hb d_L_223 ?_
        refine va_sld hx hb hX hbl hbA hS hi1 d_L_224 ?_
        refine lv_aload_n hx hb d_L_225 rfl (lv_at hl 0 rfl) ?_
        refine lv_iload_n hx hb d_L_226 rfl (lv_at hl 3 rfl) ?_
        refine lv_iconst (v := 2) hx hb d_L_227 (by decide) ?_
        refine lv_iadd hx hb d_L_228 ?_
        refine va_sld hx hb hX hbl hbA hS hi2 d_L_229 ?_
        refine aft2_i (vv := wE a cI cZ u1) (va_runV (As := [.int (xs (nI (4 * k) + 1).toNatClampNeg), .int (xs (nI (4 * k) + 2).toNatClampNeg)]) (rest := [.int r1]) ⟨hx, hb, hml, hown, hts⟩ (c_M_expire l D b2 cI cZ H.size h (xs (nI (4 * k) + 1).toNatClampNeg) (xs (nI (4 * k) + 2).toNatClampNeg) _ hw) ⟨callB_of 2 hts good_M_expire rfl rfl rfl (hts _ tb_6) (hts _ tb_471) hd_M_expire ⟨Nat.le_of_ble_eq_true rfl, Nat.le_of_ble_eq_true rfl⟩, hts _ tb_472, hts _ tb_473⟩ (preV 0 5 hPM hDM hK hN rfl rfl) rfl rfl hl.1 rfl (lv_room (Nat.le_of_ble_eq_true rfl)) d_L_230 ⟨Nat.le_of_ble_eq_true rfl, Nat.le_of_ble_eq_true rfl⟩) hDM hS hA hPE (apEM hab) (fun r2 u2 H locs hw hPM hDM hPE hS => ?_)
        refine lv_icmp_eq (tgt := 507) hx hb d_L_233 (by decide) (fun hc => ?_) (fun hc => absurd hw.1 hc)
        exact k_507 u1 u2 _ _ _ hw.2 hPE hDE hPM hDM hS hl
      · refine lv_tableIn (off := 206) (tgt := 238) hx hb d_L_32 (by rw [hc]; decide) (by rw [hc]; decide) (by rw [hc]; rfl) (by decide) ?_
        refine lv_aload_n hx hb d_L_238 rfl (lv_at hl 1 rfl) ?_
        refine lv_aload_n hx hb d_L_239 rfl (lv_at hl 0 rfl) ?_
        refine lv_iload_n hx hb d_L_240 rfl (lv_at hl 3 rfl) ?_
        refine lv_iconst (v := 1) hx hb d_L_241 (by decide) ?_
        refine lv_iadd hx hb d_L_242 ?_
        refine va_sld hx hb hX hbl hbA hS hi1 d_L_243 ?_
        have hw := st_tick hR (xs (nI (4 * k) + 1).toNatClampNeg)
        refine aft2_i (vv := wM b2 cI cZ h) (va_runV (As := [.int (xs (nI (4 * k) + 1).toNatClampNeg)]) (rest := []) ⟨hx, hb, hml, hown, hts⟩ (c_E_tick l D a cI cZ H.size g (xs (nI (4 * k) + 1).toNatClampNeg) _ hw) ⟨callB_of 1 hts good_E_tick rfl rfl rfl (hts _ tb_1) (hts _ tb_243) hd_E_tick ⟨Nat.le_of_ble_eq_true rfl, Nat.le_of_ble_eq_true rfl⟩, hts _ tb_244, hts _ tb_245⟩ (preV 0 4 hPE hDE hK hN rfl rfl) rfl rfl hl.1 rfl (lv_room (Nat.le_of_ble_eq_true rfl)) d_L_244 ⟨Nat.le_of_ble_eq_true rfl, Nat.le_of_ble_eq_true rfl⟩) hDE hS hA hPM (apME hab) (fun r1 u1 H locs hw hPE hDE hPM hS => ?_)
        refine lv_aload_n hx hb d_L_247 rfl (lv_at hl 2 rfl) ?_
        refine lv_aload_n hx hb d_L_248 rfl (lv_at hl 0 rfl) ?_
        refine lv_iload_n hx hb d_L_249 rfl (lv_at hl 3 rfl) ?_
        refine lv_iconst (v := 1) hx hb d_L_250 (by decide) ?_
        refine lv_iadd hx hb d_L_251 ?_
        refine va_sld hx hb hX hbl hbA hS hi1 d_L_252 ?_
        refine aft2_i (vv := wE a cI cZ u1) (va_runV (As := [.int (xs (nI (4 * k) + 1).toNatClampNeg)]) (rest := [.int r1]) ⟨hx, hb, hml, hown, hts⟩ (c_M_tick l D b2 cI cZ H.size h (xs (nI (4 * k) + 1).toNatClampNeg) _ hw) ⟨callB_of 1 hts good_M_tick rfl rfl rfl (hts _ tb_6) (hts _ tb_475) hd_M_tick ⟨Nat.le_of_ble_eq_true rfl, Nat.le_of_ble_eq_true rfl⟩, hts _ tb_476, hts _ tb_477⟩ (preV 0 5 hPM hDM hK hN rfl rfl) rfl rfl hl.1 rfl (lv_room (Nat.le_of_ble_eq_true rfl)) d_L_253 ⟨Nat.le_of_ble_eq_true rfl, Nat.le_of_ble_eq_true rfl⟩) hDM hS hA hPE (apEM hab) (fun r2 u2 H locs hw hPM hDM hPE hS => ?_)
        refine lv_icmp_eq (tgt := 507) hx hb d_L_256 (by decide) (fun hc => ?_) (fun hc => absurd hw.1 hc)
        exact k_507 u1 u2 _ _ _ hw.2 hPE hDE hPM hDM hS hl
      · refine lv_tableIn (off := 229) (tgt := 261) hx hb d_L_32 (by rw [hc]; decide) (by rw [hc]; decide) (by rw [hc]; rfl) (by decide) ?_
        refine lv_aload_n hx hb d_L_261 rfl (lv_at hl 1 rfl) ?_
        have hw := st_dispatch hR
        refine aft2_i (vv := wM b2 cI cZ h) (va_runV (As := []) (rest := []) ⟨hx, hb, hml, hown, hts⟩ (c_E_dispatch l D a cI cZ H.size g _ hw) ⟨callB_of 0 hts good_E_dispatch rfl rfl rfl (hts _ tb_1) (hts _ tb_248) hd_E_dispatch ⟨Nat.le_of_ble_eq_true rfl, Nat.le_of_ble_eq_true rfl⟩, hts _ tb_249, hts _ tb_250⟩ (preV 0 4 hPE hDE hK hN rfl rfl) rfl rfl hl.1 rfl (lv_room (Nat.le_of_ble_eq_true rfl)) d_L_262 ⟨Nat.le_of_ble_eq_true rfl, Nat.le_of_ble_eq_true rfl⟩) hDE hS hA hPM (apME hab) (fun r1 u1 H locs hw hPE hDE hPM hS => ?_)
        refine lv_aload_n hx hb d_L_265 rfl (lv_at hl 2 rfl) ?_
        refine aft2_i (vv := wE a cI cZ u1) (va_runV (As := []) (rest := [.int r1]) ⟨hx, hb, hml, hown, hts⟩ (c_M_dispatch l D b2 cI cZ H.size h _ hw) ⟨callB_of 0 hts good_M_dispatch rfl rfl rfl (hts _ tb_6) (hts _ tb_480) hd_M_dispatch ⟨Nat.le_of_ble_eq_true rfl, Nat.le_of_ble_eq_true rfl⟩, hts _ tb_481, hts _ tb_482⟩ (preV 0 5 hPM hDM hK hN rfl rfl) rfl rfl hl.1 rfl (lv_room (Nat.le_of_ble_eq_true rfl)) d_L_266 ⟨Nat.le_of_ble_eq_true rfl, Nat.le_of_ble_eq_true rfl⟩) hDM hS hA hPE (apEM hab) (fun r2 u2 H locs hw hPM hDM hPE hS => ?_)
        refine lv_icmp_eq (tgt := 507) hx hb d_L_269 (by decide) (fun hc => ?_) (fun hc => absurd hw.1 hc)
        exact k_507 u1 u2 _ _ _ hw.2 hPE hDE hPM hDM hS hl
      · refine lv_tableIn (off := 242) (tgt := 274) hx hb d_L_32 (by rw [hc]; decide) (by rw [hc]; decide) (by rw [hc]; rfl) (by decide) ?_
        refine lv_aload_n hx hb d_L_274 rfl (lv_at hl 1 rfl) ?_
        refine lv_aload_n hx hb d_L_275 rfl (lv_at hl 0 rfl) ?_
        refine lv_iload_n hx hb d_L_276 rfl (lv_at hl 3 rfl) ?_
        refine lv_iconst (v := 1) hx hb d_L_277 (by decide) ?_
        refine lv_iadd hx hb d_L_278 ?_
        refine va_sld hx hb hX hbl hbA hS hi1 d_L_279 ?_
        have hw := st_state hR (xs (nI (4 * k) + 1).toNatClampNeg)
        refine aft2_i (vv := wM b2 cI cZ h) (va_runV (As := [.int (xs (nI (4 * k) + 1).toNatClampNeg)]) (rest := []) ⟨hx, hb, hml, hown, hts⟩ (c_E_state l D a cI cZ H.size g (xs (nI (4 * k) + 1).toNatClampNeg) _ hw) ⟨callB_of 1 hts good_E_state rfl rfl rfl (hts _ tb_1) (hts _ tb_309) hd_E_state ⟨Nat.le_of_ble_eq_true rfl, Nat.le_of_ble_eq_true rfl⟩, hts _ tb_310, hts _ tb_311⟩ (preV 0 4 hPE hDE hK hN rfl rfl) rfl rfl hl.1 rfl (lv_room (Nat.le_of_ble_eq_true rfl)) d_L_280 ⟨Nat.le_of_ble_eq_true rfl, Nat.le_of_ble_eq_true rfl⟩) hDE hS hA hPM (apME hab) (fun r1 u1 H locs hw hPE hDE hPM hS => ?_)
        refine lv_aload_n hx hb d_L_283 rfl (lv_at hl 2 rfl) ?_
        refine lv_aload_n hx hb d_L_284 rfl (lv_at hl 0 rfl) ?_
        refine lv_iload_n hx hb d_L_285 rfl (lv_at hl 3 rfl) ?_
        refine lv_iconst (v := 1) hx hb d_L_286 (by decide) ?_
        refine lv_iadd hx hb d_L_287 ?_
        refine va_sld hx hb hX hbl hbA hS hi1 d_L_288 ?_
        refine aft2_i (vv := wE a cI cZ u1) (va_runV (As := [.int (xs (nI (4 * k) + 1).toNatClampNeg)]) (rest := [.int r1]) ⟨hx, hb, hml, hown, hts⟩ (c_M_state l D b2 cI cZ H.size h (xs (nI (4 * k) + 1).toNatClampNeg) _ hw) ⟨callB_of 1 hts good_M_state rfl rfl rfl (hts _ tb_6) (hts _ tb_508) hd_M_state ⟨Nat.le_of_ble_eq_true rfl, Nat.le_of_ble_eq_true rfl⟩, hts _ tb_509, hts _ tb_510⟩ (preV 0 5 hPM hDM hK hN rfl rfl) rfl rfl hl.1 rfl (lv_room (Nat.le_of_ble_eq_true rfl)) d_L_289 ⟨Nat.le_of_ble_eq_true rfl, Nat.le_of_ble_eq_true rfl⟩) hDM hS hA hPE (apEM hab) (fun r2 u2 H locs hw hPM hDM hPE hS => ?_)
        refine lv_icmp_eq (tgt := 507) hx hb d_L_292 (by decide) (fun hc => ?_) (fun hc => absurd hw.1 hc)
        exact k_507 u1 u2 _ _ _ hw.2 hPE hDE hPM hDM hS hl
      · refine lv_tableIn (off := 265) (tgt := 297) hx hb d_L_32 (by rw [hc]; decide) (by rw [hc]; decide) (by rw [hc]; rfl) (by decide) ?_
        refine lv_aload_n hx hb d_L_297 rfl (lv_at hl 1 rfl) ?_
        refine lv_aload_n hx hb d_L_298 rfl (lv_at hl 0 rfl) ?_
        refine lv_iload_n hx hb d_L_299 rfl (lv_at hl 3 rfl) ?_
        refine lv_iconst (v := 1) hx hb d_L_300 (by decide) ?_
        refine lv_iadd hx hb d_L_301 ?_
        refine va_sld hx hb hX hbl hbA hS hi1 d_L_302 ?_
        refine lv_aload_n hx hb d_L_303 rfl (lv_at hl 0 rfl) ?_
        refine lv_iload_n hx hb d_L_304 rfl (lv_at hl 3 rfl) ?_
        refine lv_iconst (v := 2) hx hb d_L_305 (by decide) ?_
        refine lv_iadd hx hb d_L_306 ?_
        refine va_sld hx hb hX hbl hbA hS hi2 d_L_307 ?_
        have hw := st_value hR (xs (nI (4 * k) + 1).toNatClampNeg) (xs (nI (4 * k) + 2).toNatClampNeg)
        refine aft2_i (vv := wM b2 cI cZ h) (va_runV (As := [.int (xs (nI (4 * k) + 1).toNatClampNeg), .int (xs (nI (4 * k) + 2).toNatClampNeg)]) (rest := []) ⟨hx, hb, hml, hown, hts⟩ (c_E_value l D a cI cZ H.size g (xs (nI (4 * k) + 1).toNatClampNeg) (xs (nI (4 * k) + 2).toNatClampNeg) _ hw) ⟨callB_of 2 hts good_E_value rfl rfl rfl (hts _ tb_1) (hts _ tb_317) hd_E_value ⟨Nat.le_of_ble_eq_true rfl, Nat.le_of_ble_eq_true rfl⟩, hts _ tb_318, hts _ tb_319⟩ (preV 0 4 hPE hDE hK hN rfl rfl) rfl rfl hl.1 rfl (lv_room (Nat.le_of_ble_eq_true rfl)) d_L_308 ⟨Nat.le_of_ble_eq_true rfl, Nat.le_of_ble_eq_true rfl⟩) hDE hS hA hPM (apME hab) (fun r1 u1 H locs hw hPE hDE hPM hS => ?_)
        refine lv_aload_n hx hb d_L_311 rfl (lv_at hl 2 rfl) ?_
        refine lv_aload_n hx hb d_L_312 rfl (lv_at hl 0 rfl) ?_
        refine lv_iload_n hx hb d_L_313 rfl (lv_at hl 3 rfl) ?_
        refine lv_iconst (v := 1) hx hb d_L_314 (by decide) ?_
        refine lv_iadd hx hb d_L_315 ?_
        refine va_sld hx hb hX hbl hbA hS hi1 d_L_316 ?_
        refine lv_aload_n hx hb d_L_317 rfl (lv_at hl 0 rfl) ?_
        refine lv_iload_n hx hb d_L_318 rfl (lv_at hl 3 rfl) ?_
        refine lv_iconst (v := 2) hx hb d_L_319 (by decide) ?_
        refine lv_iadd hx hb d_L_320 ?_
        refine va_sld hx hb hX hbl hbA hS hi2 d_L_321 ?_
        refine aft2_i (vv := wE a cI cZ u1) (va_runV (As := [.int (xs (nI (4 * k) + 1).toNatClampNeg), .int (xs (nI (4 * k) + 2).toNatClampNeg)]) (rest := [.int r1]) ⟨hx, hb, hml, hown, hts⟩ (c_M_value l D b2 cI cZ H.size h (xs (nI (4 * k) + 1).toNatClampNeg) (xs (nI (4 * k) + 2).toNatClampNeg) _ hw) ⟨callB_of 2 hts good_M_value rfl rfl rfl (hts _ tb_6) (hts _ tb_516) hd_M_value ⟨Nat.le_of_ble_eq_true rfl, Nat.le_of_ble_eq_true rfl⟩, hts _ tb_517, hts _ tb_518⟩ (preV 0 5 hPM hDM hK hN rfl rfl) rfl rfl hl.1 rfl (lv_room (Nat.le_of_ble_eq_true rfl)) d_L_322 ⟨Nat.le_of_ble_eq_true rfl, Nat.le_of_ble_eq_true rfl⟩) hDM hS hA hPE (apEM hab) (fun r2 u2 H locs hw hPM hDM hPE hS => ?_)
        refine lv_icmp_eq (tgt := 507) hx hb d_L_325 (by decide) (fun hc => ?_) (fun hc => absurd hw.1 hc)
        exact k_507 u1 u2 _ _ _ hw.2 hPE hDE hPM hDM hS hl
      · refine lv_tableIn (off := 298) (tgt := 330) hx hb d_L_32 (by rw [hc]; decide) (by rw [hc]; decide) (by rw [hc]; rfl) (by decide) ?_
        refine lv_aload_n hx hb d_L_330 rfl (lv_at hl 1 rfl) ?_
        refine lv_aload_n hx hb d_L_331 rfl (lv_at hl 0 rfl) ?_
        refine lv_iload_n hx hb d_L_332 rfl (lv_at hl 3 rfl) ?_
        refine lv_iconst (v := 1) hx hb d_L_333 (by decide) ?_
        refine lv_iadd hx hb d_L_334 ?_
        refine va_sld hx hb hX hbl hbA hS hi1 d_L_335 ?_
        have hw := st_sector hR (xs (nI (4 * k) + 1).toNatClampNeg)
        refine aft2_i (vv := wM b2 cI cZ h) (va_runV (As := [.int (xs (nI (4 * k) + 1).toNatClampNeg)]) (rest := []) ⟨hx, hb, hml, hown, hts⟩ (c_E_sector l D a cI cZ H.size g (xs (nI (4 * k) + 1).toNatClampNeg) _ hw) ⟨callB_of 1 hts good_E_sector rfl rfl rfl (hts _ tb_1) (hts _ tb_321) hd_E_sector ⟨Nat.le_of_ble_eq_true rfl, Nat.le_of_ble_eq_true rfl⟩, hts _ tb_322, hts _ tb_323⟩ (preV 0 4 hPE hDE hK hN rfl rfl) rfl rfl hl.1 rfl (lv_room (Nat.le_of_ble_eq_true rfl)) d_L_336 ⟨Nat.le_of_ble_eq_true rfl, Nat.le_of_ble_eq_true rfl⟩) hDE hS hA hPM (apME hab) (fun r1 u1 H locs hw hPE hDE hPM hS => ?_)
        refine lv_aload_n hx hb d_L_339 rfl (lv_at hl 2 rfl) ?_
        refine lv_aload_n hx hb d_L_340 rfl (lv_at hl 0 rfl) ?_
        refine lv_iload_n hx hb d_L_341 rfl (lv_at hl 3 rfl) ?_
        refine lv_iconst (v := 1) hx hb d_L_342 (by decide) ?_
        refine lv_iadd hx hb d_L_343 ?_
        refine va_sld hx hb hX hbl hbA hS hi1 d_L_344 ?_
        refine aft2_i (vv := wE a cI cZ u1) (va_runV (As := [.int (xs (nI (4 * k) + 1).toNatClampNeg)]) (rest := [.int r1]) ⟨hx, hb, hml, hown, hts⟩ (c_M_sector l D b2 cI cZ H.size h (xs (nI (4 * k) + 1).toNatClampNeg) _ hw) ⟨callB_of 1 hts good_M_sector rfl rfl rfl (hts _ tb_6) (hts _ tb_520) hd_M_sector ⟨Nat.le_of_ble_eq_true rfl, Nat.le_of_ble_eq_true rfl⟩, hts _ tb_521, hts _ tb_522⟩ (preV 0 5 hPM hDM hK hN rfl rfl) rfl rfl hl.1 rfl (lv_room (Nat.le_of_ble_eq_true rfl)) d_L_345 ⟨Nat.le_of_ble_eq_true rfl, Nat.le_of_ble_eq_true rfl⟩) hDM hS hA hPE (apEM hab) (fun r2 u2 H locs hw hPM hDM hPE hS => ?_)
        refine lv_icmp_eq (tgt := 507) hx hb d_L_348 (by decide) (fun hc => ?_) (fun hc => absurd hw.1 hc)
        exact k_507 u1 u2 _ _ _ hw.2 hPE hDE hPM hDM hS hl
      · refine lv_tableIn (off := 321) (tgt := 353) hx hb d_L_32 (by rw [hc]; decide) (by rw [hc]; decide) (by rw [hc]; rfl) (by decide) ?_
        refine lv_aload_n hx hb d_L_353 rfl (lv_at hl 1 rfl) ?_
        refine lv_aload_n hx hb d_L_354 rfl (lv_at hl 0 rfl) ?_
        refine lv_iload_n hx hb d_L_355 rfl (lv_at hl 3 rfl) ?_
        refine lv_iconst (v := 1) hx hb d_L_356 (by decide) ?_
        refine lv_iadd hx hb d_L_357 ?_
        refine va_sld hx hb hX hbl hbA hS hi1 d_L_358 ?_
        have hw := st_waiting hR (xs (nI (4 * k) + 1).toNatClampNeg)
        refine aft2_i (vv := wM b2 cI cZ h) (va_runV (As := [.int (xs (nI (4 * k) + 1).toNatClampNeg)]) (rest := []) ⟨hx, hb, hml, hown, hts⟩ (c_E_waiting l D a cI cZ H.size g (xs (nI (4 * k) + 1).toNatClampNeg) _ hw) ⟨callB_of 1 hts good_E_waiting rfl rfl rfl (hts _ tb_1) (hts _ tb_325) hd_E_waiting ⟨Nat.le_of_ble_eq_true rfl, Nat.le_of_ble_eq_true rfl⟩, hts _ tb_326, hts _ tb_327⟩ (preV 0 4 hPE hDE hK hN rfl rfl) rfl rfl hl.1 rfl (lv_room (Nat.le_of_ble_eq_true rfl)) d_L_359 ⟨Nat.le_of_ble_eq_true rfl, Nat.le_of_ble_eq_true rfl⟩) hDE hS hA hPM (apME hab) (fun r1 u1 H locs hw hPE hDE hPM hS => ?_)
        refine lv_aload_n hx hb d_L_362 rfl (lv_at hl 2 rfl) ?_
        refine lv_aload_n hx hb d_L_363 rfl (lv_at hl 0 rfl) ?_
        refine lv_iload_n hx hb d_L_364 rfl (lv_at hl 3 rfl) ?_
        refine lv_iconst (v := 1) hx hb d_L_365 (by decide) ?_
        refine lv_iadd hx hb d_L_366 ?_
        refine va_sld hx hb hX hbl hbA hS hi1 d_L_367 ?_
        refine aft2_i (vv := wE a cI cZ u1) (va_runV (As := [.int (xs (nI (4 * k) + 1).toNatClampNeg)]) (rest := [.int r1]) ⟨hx, hb, hml, hown, hts⟩ (c_M_waiting l D b2 cI cZ H.size h (xs (nI (4 * k) + 1).toNatClampNeg) _ hw) ⟨callB_of 1 hts good_M_waiting rfl rfl rfl (hts _ tb_6) (hts _ tb_524) hd_M_waiting ⟨Nat.le_of_ble_eq_true rfl, Nat.le_of_ble_eq_true rfl⟩, hts _ tb_436, hts _ tb_437⟩ (preV 0 5 hPM hDM hK hN rfl rfl) rfl rfl hl.1 rfl (lv_room (Nat.le_of_ble_eq_true rfl)) d_L_368 ⟨Nat.le_of_ble_eq_true rfl, Nat.le_of_ble_eq_true rfl⟩) hDM hS hA hPE (apEM hab) (fun r2 u2 H locs hw hPM hDM hPE hS => ?_)
        refine lv_icmp_eq (tgt := 507) hx hb d_L_371 (by decide) (fun hc => ?_) (fun hc => absurd hw.1 hc)
        exact k_507 u1 u2 _ _ _ hw.2 hPE hDE hPM hDM hS hl
      · refine lv_tableIn (off := 344) (tgt := 376) hx hb d_L_32 (by rw [hc]; decide) (by rw [hc]; decide) (by rw [hc]; rfl) (by decide) ?_
        refine lv_aload_n hx hb d_L_376 rfl (lv_at hl 1 rfl) ?_
        refine lv_aload_n hx hb d_L_377 rfl (lv_at hl 0 rfl) ?_
        refine lv_iload_n hx hb d_L_378 rfl (lv_at hl 3 rfl) ?_
        refine lv_iconst (v := 1) hx hb d_L_379 (by decide) ?_
        refine lv_iadd hx hb d_L_380 ?_
        refine va_sld hx hb hX hbl hbA hS hi1 d_L_381 ?_
        have hw := st_ready hR (xs (nI (4 * k) + 1).toNatClampNeg)
        refine aft2_i (vv := wM b2 cI cZ h) (va_runV (As := [.int (xs (nI (4 * k) + 1).toNatClampNeg)]) (rest := []) ⟨hx, hb, hml, hown, hts⟩ (c_E_ready l D a cI cZ H.size g (xs (nI (4 * k) + 1).toNatClampNeg) _ hw) ⟨callB_of 1 hts good_E_ready rfl rfl rfl (hts _ tb_1) (hts _ tb_329) hd_E_ready ⟨Nat.le_of_ble_eq_true rfl, Nat.le_of_ble_eq_true rfl⟩, hts _ tb_330, hts _ tb_331⟩ (preV 0 4 hPE hDE hK hN rfl rfl) rfl rfl hl.1 rfl (lv_room (Nat.le_of_ble_eq_true rfl)) d_L_382 ⟨Nat.le_of_ble_eq_true rfl, Nat.le_of_ble_eq_true rfl⟩) hDE hS hA hPM (apME hab) (fun r1 u1 H locs hw hPE hDE hPM hS => ?_)
        refine lv_aload_n hx hb d_L_385 rfl (lv_at hl 2 rfl) ?_
        refine lv_aload_n hx hb d_L_386 rfl (lv_at hl 0 rfl) ?_
        refine lv_iload_n hx hb d_L_387 rfl (lv_at hl 3 rfl) ?_
        refine lv_iconst (v := 1) hx hb d_L_388 (by decide) ?_
        refine lv_iadd hx hb d_L_389 ?_
        refine va_sld hx hb hX hbl hbA hS hi1 d_L_390 ?_
        refine aft2_i (vv := wE a cI cZ u1) (va_runV (As := [.int (xs (nI (4 * k) + 1).toNatClampNeg)]) (rest := [.int r1]) ⟨hx, hb, hml, hown, hts⟩ (c_M_ready l D b2 cI cZ H.size h (xs (nI (4 * k) + 1).toNatClampNeg) _ hw) ⟨callB_of 1 hts good_M_ready rfl rfl rfl (hts _ tb_6) (hts _ tb_525) hd_M_ready ⟨Nat.le_of_ble_eq_true rfl, Nat.le_of_ble_eq_true rfl⟩, hts _ tb_497, hts _ tb_498⟩ (preV 0 5 hPM hDM hK hN rfl rfl) rfl rfl hl.1 rfl (lv_room (Nat.le_of_ble_eq_true rfl)) d_L_391 ⟨Nat.le_of_ble_eq_true rfl, Nat.le_of_ble_eq_true rfl⟩) hDM hS hA hPE (apEM hab) (fun r2 u2 H locs hw hPM hDM hPE hS => ?_)
        refine lv_icmp_eq (tgt := 507) hx hb d_L_394 (by decide) (fun hc => ?_) (fun hc => absurd hw.1 hc)
        exact k_507 u1 u2 _ _ _ hw.2 hPE hDE hPM hDM hS hl
      · refine lv_tableIn (off := 367) (tgt := 399) hx hb d_L_32 (by rw [hc]; decide) (by rw [hc]; decide) (by rw [hc]; rfl) (by decide) ?_
        refine lv_aload_n hx hb d_L_399 rfl (lv_at hl 1 rfl) ?_
        refine lv_aload_n hx hb d_L_400 rfl (lv_at hl 0 rfl) ?_
        refine lv_iload_n hx hb d_L_401 rfl (lv_at hl 3 rfl) ?_
        refine lv_iconst (v := 1) hx hb d_L_402 (by decide) ?_
        refine lv_iadd hx hb d_L_403 ?_
        refine va_sld hx hb hX hbl hbA hS hi1 d_L_404 ?_
        have hw := st_requestOf hR (xs (nI (4 * k) + 1).toNatClampNeg)
        refine aft2_i (vv := wM b2 cI cZ h) (va_runV (As := [.int (xs (nI (4 * k) + 1).toNatClampNeg)]) (rest := []) ⟨hx, hb, hml, hown, hts⟩ (c_E_requestOf l D a cI cZ H.size g (xs (nI (4 * k) + 1).toNatClampNeg) _ hw) ⟨callB_of 1 hts good_E_requestOf rfl rfl rfl (hts _ tb_1) (hts _ tb_334) hd_E_requestOf ⟨Nat.le_of_ble_eq_true rfl, Nat.le_of_ble_eq_true rfl⟩, hts _ tb_335, hts _ tb_336⟩ (preV 0 4 hPE hDE hK hN rfl rfl) rfl rfl hl.1 rfl (lv_room (Nat.le_of_ble_eq_true rfl)) d_L_405 ⟨Nat.le_of_ble_eq_true rfl, Nat.le_of_ble_eq_true rfl⟩) hDE hS hA hPM (apME hab) (fun r1 u1 H locs hw hPE hDE hPM hS => ?_)
        refine lv_aload_n hx hb d_L_408 rfl (lv_at hl 2 rfl) ?_
        refine lv_aload_n hx hb d_L_409 rfl (lv_at hl 0 rfl) ?_
        refine lv_iload_n hx hb d_L_410 rfl (lv_at hl 3 rfl) ?_
        refine lv_iconst (v := 1) hx hb d_L_411 (by decide) ?_
        refine lv_iadd hx hb d_L_412 ?_
        refine va_sld hx hb hX hbl hbA hS hi1 d_L_413 ?_
        refine aft2_i (vv := wE a cI cZ u1) (va_runV (As := [.int (xs (nI (4 * k) + 1).toNatClampNeg)]) (rest := [.int r1]) ⟨hx, hb, hml, hown, hts⟩ (c_M_requestOf l D b2 cI cZ H.size h (xs (nI (4 * k) + 1).toNatClampNeg) _ hw) ⟨callB_of 1 hts good_M_requestOf rfl rfl rfl (hts _ tb_6) (hts _ tb_526) hd_M_requestOf ⟨Nat.le_of_ble_eq_true rfl, Nat.le_of_ble_eq_true rfl⟩, hts _ tb_527, hts _ tb_528⟩ (preV 0 5 hPM hDM hK hN rfl rfl) rfl rfl hl.1 rfl (lv_room (Nat.le_of_ble_eq_true rfl)) d_L_414 ⟨Nat.le_of_ble_eq_true rfl, Nat.le_of_ble_eq_true rfl⟩) hDM hS hA hPE (apEM hab) (fun r2 u2 H locs hw hPM hDM hPE hS => ?_)
        refine lv_icmp_eq (tgt := 507) hx hb d_L_417 (by decide) (fun hc => ?_) (fun hc => absurd hw.1 hc)
        exact k_507 u1 u2 _ _ _ hw.2 hPE hDE hPM hDM hS hl
      · refine lv_tableIn (off := 390) (tgt := 422) hx hb d_L_32 (by rw [hc]; decide) (by rw [hc]; decide) (by rw [hc]; rfl) (by decide) ?_
        refine lv_aload_n hx hb d_L_422 rfl (lv_at hl 1 rfl) ?_
        refine lv_aload_n hx hb d_L_423 rfl (lv_at hl 0 rfl) ?_
        refine lv_iload_n hx hb d_L_424 rfl (lv_at hl 3 rfl) ?_
        refine lv_iconst (v := 1) hx hb d_L_425 (by decide) ?_
        refine lv_iadd hx hb d_L_426 ?_
        refine va_sld hx hb hX hbl hbA hS hi1 d_L_427 ?_
        refine lv_aload_n hx hb d_L_428 rfl (lv_at hl 0 rfl) ?_
        refine lv_iload_n hx hb d_L_429 rfl (lv_at hl 3 rfl) ?_
        refine lv_iconst (v := 2) hx hb d_L_430 (by decide) ?_
        refine lv_iadd hx hb d_L_431 ?_
        refine va_sld hx hb hX hbl hbA hS hi2 d_L_432 ?_
        have hw := st_about hR (xs (nI (4 * k) + 1).toNatClampNeg) (xs (nI (4 * k) + 2).toNatClampNeg)
        refine aft2_i (vv := wM b2 cI cZ h) (va_runV (As := [.int (xs (nI (4 * k) + 1).toNatClampNeg), .int (xs (nI (4 * k) + 2).toNatClampNeg)]) (rest := []) ⟨hx, hb, hml, hown, hts⟩ (c_E_about l D a cI cZ H.size g (xs (nI (4 * k) + 1).toNatClampNeg) (xs (nI (4 * k) + 2).toNatClampNeg) _ hw) ⟨callB_of 2 hts good_E_about rfl rfl rfl (hts _ tb_1) (hts _ tb_343) hd_E_about ⟨Nat.le_of_ble_eq_true rfl, Nat.le_of_ble_eq_true rfl⟩, hts _ tb_344, hts _ tb_345⟩ (preV 0 4 hPE hDE hK hN rfl rfl) rfl rfl hl.1 rfl (lv_room (Nat.le_of_ble_eq_true rfl)) d_L_433 ⟨Nat.le_of_ble_eq_true rfl, Nat.le_of_ble_eq_true rfl⟩) hDE hS hA hPM (apME hab) (fun r1 u1 H locs hw hPE hDE hPM hS => ?_)
        refine lv_aload_n hx hb d_L_436 rfl (lv_at hl 2 rfl) ?_
        refine lv_aload_n hx hb d_L_437 rfl (lv_at hl 0 rfl) ?_
        refine lv_iload_n hx hb d_L_438 rfl (lv_at hl 3 rfl) ?_
        refine lv_iconst (v := 1) hx hb d_L_439 (by decide) ?_
        refine lv_iadd hx hb d_L_440 ?_
        refine va_sld hx hb hX hbl hbA hS hi1 d_L_441 ?_
        refine lv_aload_n hx hb d_L_442 rfl (lv_at hl 0 rfl) ?_
        refine lv_iload_n hx hb d_L_443 rfl (lv_at hl 3 rfl) ?_
        refine lv_iconst (v := 2) hx hb d_L_444 (by decide) ?_
        refine lv_iadd hx hb d_L_445 ?_
        refine va_sld hx hb hX hbl hbA hS hi2 d_L_446 ?_
        refine aft2_i (vv := wE a cI cZ u1) (va_runV (As := [.int (xs (nI (4 * k) + 1).toNatClampNeg), .int (xs (nI (4 * k) + 2).toNatClampNeg)]) (rest := [.int r1]) ⟨hx, hb, hml, hown, hts⟩ (c_M_about l D b2 cI cZ H.size h (xs (nI (4 * k) + 1).toNatClampNeg) (xs (nI (4 * k) + 2).toNatClampNeg) _ hw) ⟨callB_of 2 hts good_M_about rfl rfl rfl (hts _ tb_6) (hts _ tb_530) hd_M_about ⟨Nat.le_of_ble_eq_true rfl, Nat.le_of_ble_eq_true rfl⟩, hts _ tb_531, hts _ tb_532⟩ (preV 0 5 hPM hDM hK hN rfl rfl) rfl rfl hl.1 rfl (lv_room (Nat.le_of_ble_eq_true rfl)) d_L_447 ⟨Nat.le_of_ble_eq_true rfl, Nat.le_of_ble_eq_true rfl⟩) hDM hS hA hPE (apEM hab) (fun r2 u2 H locs hw hPM hDM hPE hS => ?_)
        refine lv_icmp_eq (tgt := 507) hx hb d_L_450 (by decide) (fun hc => ?_) (fun hc => absurd hw.1 hc)
        exact k_507 u1 u2 _ _ _ hw.2 hPE hDE hPM hDM hS hl
      · refine lv_tableIn (off := 423) (tgt := 455) hx hb d_L_32 (by rw [hc]; decide) (by rw [hc]; decide) (by rw [hc]; rfl) (by decide) ?_
        refine lv_aload_n hx hb d_L_455 rfl (lv_at hl 1 rfl) ?_
        have hw := st_latest hR
        refine aft2_i (vv := wM b2 cI cZ h) (va_runV (As := []) (rest := []) ⟨hx, hb, hml, hown, hts⟩ (c_E_latest l D a cI cZ H.size g _ hw) ⟨callB_of 0 hts good_E_latest rfl rfl rfl (hts _ tb_1) (hts _ tb_347) hd_E_latest ⟨Nat.le_of_ble_eq_true rfl, Nat.le_of_ble_eq_true rfl⟩, hts _ tb_348, hts _ tb_349⟩ (preV 0 4 hPE hDE hK hN rfl rfl) rfl rfl hl.1 rfl (lv_room (Nat.le_of_ble_eq_true rfl)) d_L_456 ⟨Nat.le_of_ble_eq_true rfl, Nat.le_of_ble_eq_true rfl⟩) hDE hS hA hPM (apME hab) (fun r1 u1 H locs hw hPE hDE hPM hS => ?_)
        refine lv_aload_n hx hb d_L_459 rfl (lv_at hl 2 rfl) ?_
        refine aft2_i (vv := wE a cI cZ u1) (va_runV (As := []) (rest := [.int r1]) ⟨hx, hb, hml, hown, hts⟩ (c_M_latest l D b2 cI cZ H.size h _ hw) ⟨callB_of 0 hts good_M_latest rfl rfl rfl (hts _ tb_6) (hts _ tb_535) hd_M_latest ⟨Nat.le_of_ble_eq_true rfl, Nat.le_of_ble_eq_true rfl⟩, hts _ tb_536, hts _ tb_537⟩ (preV 0 5 hPM hDM hK hN rfl rfl) rfl rfl hl.1 rfl (lv_room (Nat.le_of_ble_eq_true rfl)) d_L_460 ⟨Nat.le_of_ble_eq_true rfl, Nat.le_of_ble_eq_true rfl⟩) hDM hS hA hPE (apEM hab) (fun r2 u2 H locs hw hPM hDM hPE hS => ?_)
        refine lv_icmp_eq (tgt := 507) hx hb d_L_463 (by decide) (fun hc => ?_) (fun hc => absurd hw.1 hc)
        exact k_507 u1 u2 _ _ _ hw.2 hPE hDE hPM hDM hS hl
      · refine lv_tableIn (off := 436) (tgt := 468) hx hb d_L_32 (by rw [hc]; decide) (by rw [hc]; decide) (by rw [hc]; rfl) (by decide) ?_
        refine lv_aload_n hx hb d_L_468 rfl (lv_at hl 1 rfl) ?_
        have hw := st_head hR
        refine aft2_i (vv := wM b2 cI cZ h) (va_runV (As := []) (rest := []) ⟨hx, hb, hml, hown, hts⟩ (c_E_head l D a cI cZ H.size g _ hw) ⟨callB_of 0 hts good_E_head rfl rfl rfl (hts _ tb_1) (hts _ tb_351) hd_E_head ⟨Nat.le_of_ble_eq_true rfl, Nat.le_of_ble_eq_true rfl⟩, hts _ tb_352, hts _ tb_353⟩ (preV 0 4 hPE hDE hK hN rfl rfl) rfl rfl hl.1 rfl (lv_room (Nat.le_of_ble_eq_true rfl)) d_L_469 ⟨Nat.le_of_ble_eq_true rfl, Nat.le_of_ble_eq_true rfl⟩) hDE hS hA hPM (apME hab) (fun r1 u1 H locs hw hPE hDE hPM hS => ?_)
        refine lv_aload_n hx hb d_L_472 rfl (lv_at hl 2 rfl) ?_
        refine aft2_i (vv := wE a cI cZ u1) (va_runV (As := []) (rest := [.int r1]) ⟨hx, hb, hml, hown, hts⟩ (c_M_head l D b2 cI cZ H.size h _ hw) ⟨callB_of 0 hts good_M_head rfl rfl rfl (hts _ tb_6) (hts _ tb_539) hd_M_head ⟨Nat.le_of_ble_eq_true rfl, Nat.le_of_ble_eq_true rfl⟩, hts _ tb_540, hts _ tb_541⟩ (preV 0 5 hPM hDM hK hN rfl rfl) rfl rfl hl.1 rfl (lv_room (Nat.le_of_ble_eq_true rfl)) d_L_473 ⟨Nat.le_of_ble_eq_true rfl, Nat.le_of_ble_eq_true rfl⟩) hDM hS hA hPE (apEM hab) (fun r2 u2 H locs hw hPM hDM hPE hS => ?_)
        refine lv_icmp_eq (tgt := 507) hx hb d_L_476 (by decide) (fun hc => ?_) (fun hc => absurd hw.1 hc)
        exact k_507 u1 u2 _ _ _ hw.2 hPE hDE hPM hDM hS hl
      · refine lv_tableIn (off := 449) (tgt := 481) hx hb d_L_32 (by rw [hc]; decide) (by rw [hc]; decide) (by rw [hc]; rfl) (by decide) ?_
        refine lv_aload_n hx hb d_L_481 rfl (lv_at hl 1 rfl) ?_
        have hw := st_now hR
        refine aft2_i (vv := wM b2 cI cZ h) (va_runV (As := []) (rest := []) ⟨hx, hb, hml, hown, hts⟩ (c_E_now l D a cI cZ H.size g _ hw) ⟨callB_of 0 hts good_E_now rfl rfl rfl (hts _ tb_1) (hts _ tb_355) hd_E_now ⟨Nat.le_of_ble_eq_true rfl, Nat.le_of_ble_eq_true rfl⟩, hts _ tb_356, hts _ tb_357⟩ (preV 0 4 hPE hDE hK hN rfl rfl) rfl rfl hl.1 rfl (lv_room (Nat.le_of_ble_eq_true rfl)) d_L_482 ⟨Nat.le_of_ble_eq_true rfl, Nat.le_of_ble_eq_true rfl⟩) hDE hS hA hPM (apME hab) (fun r1 u1 H locs hw hPE hDE hPM hS => ?_)
        refine lv_aload_n hx hb d_L_485 rfl (lv_at hl 2 rfl) ?_
        refine aft2_i (vv := wE a cI cZ u1) (va_runV (As := []) (rest := [.int r1]) ⟨hx, hb, hml, hown, hts⟩ (c_M_now l D b2 cI cZ H.size h _ hw) ⟨callB_of 0 hts good_M_now rfl rfl rfl (hts _ tb_6) (hts _ tb_543) hd_M_now ⟨Nat.le_of_ble_eq_true rfl, Nat.le_of_ble_eq_true rfl⟩, hts _ tb_544, hts _ tb_545⟩ (preV 0 5 hPM hDM hK hN rfl rfl) rfl rfl hl.1 rfl (lv_room (Nat.le_of_ble_eq_true rfl)) d_L_486 ⟨Nat.le_of_ble_eq_true rfl, Nat.le_of_ble_eq_true rfl⟩) hDM hS hA hPE (apEM hab) (fun r2 u2 H locs hw hPM hDM hPE hS => ?_)
        refine lv_icmp_eq (tgt := 507) hx hb d_L_489 (by decide) (fun hc => ?_) (fun hc => absurd hw.1 hc)
        exact k_507 u1 u2 _ _ _ hw.2 hPE hDE hPM hDM hS hl
      · refine lv_tableIn (off := 462) (tgt := 494) hx hb d_L_32 (by rw [hc]; decide) (by rw [hc]; decide) (by rw [hc]; rfl) (by decide) ?_
        refine lv_aload_n hx hb d_L_494 rfl (lv_at hl 1 rfl) ?_
        have hw := st_batch hR
        refine aft2_i (vv := wM b2 cI cZ h) (va_runV (As := []) (rest := []) ⟨hx, hb, hml, hown, hts⟩ (c_E_batch l D a cI cZ H.size g _ hw) ⟨callB_of 0 hts good_E_batch rfl rfl rfl (hts _ tb_1) (hts _ tb_359) hd_E_batch ⟨Nat.le_of_ble_eq_true rfl, Nat.le_of_ble_eq_true rfl⟩, hts _ tb_360, hts _ tb_361⟩ (preV 0 4 hPE hDE hK hN rfl rfl) rfl rfl hl.1 rfl (lv_room (Nat.le_of_ble_eq_true rfl)) d_L_495 ⟨Nat.le_of_ble_eq_true rfl, Nat.le_of_ble_eq_true rfl⟩) hDE hS hA hPM (apME hab) (fun r1 u1 H locs hw hPE hDE hPM hS => ?_)
        refine lv_aload_n hx hb d_L_498 rfl (lv_at hl 2 rfl) ?_
        refine aft2_i (vv := wE a cI cZ u1) (va_runV (As := []) (rest := [.int r1]) ⟨hx, hb, hml, hown, hts⟩ (c_M_batch l D b2 cI cZ H.size h _ hw) ⟨callB_of 0 hts good_M_batch rfl rfl rfl (hts _ tb_6) (hts _ tb_547) hd_M_batch ⟨Nat.le_of_ble_eq_true rfl, Nat.le_of_ble_eq_true rfl⟩, hts _ tb_548, hts _ tb_549⟩ (preV 0 5 hPM hDM hK hN rfl rfl) rfl rfl hl.1 rfl (lv_room (Nat.le_of_ble_eq_true rfl)) d_L_499 ⟨Nat.le_of_ble_eq_true rfl, Nat.le_of_ble_eq_true rfl⟩) hDM hS hA hPE (apEM hab) (fun r2 u2 H locs hw hPM hDM hPE hS => ?_)
        refine lv_icmp_eq (tgt := 507) hx hb d_L_502 (by decide) (fun hc => ?_) (fun hc => absurd hw.1 hc)
        exact k_507 u1 u2 _ _ _ hw.2 hPE hDE hPM hDM hS hl
