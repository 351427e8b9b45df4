-- the parts of a request are done
theorem cpy_0 (f g : Nat → Int32) (sp dp : Nat) : va_cpy f g sp dp 0 = g := by
  funext x
  unfold va_cpy
  rw [if_neg (by omega)]
theorem cpy_s (f g : Nat → Int32) (sp dp i : Nat) : upd (va_cpy f g sp dp i) (dp + i) (f (sp + i)) = va_cpy f g sp dp (i + 1) := by
  funext x
  unfold upd va_cpy
  by_cases h : x = dp + i
  · rw [if_pos h, if_pos (by omega)]
    congr 1
    omega
  · rw [if_neg h]
    by_cases h2 : dp ≤ x ∧ x < dp + i
    · rw [if_pos h2, if_pos (by omega)]
    · rw [if_neg h2, if_neg (by omega)]
theorem pm_carry_w {A : Nat → Nat → Int32} {V : Nat → Int32} {w : Nat → Int64} {p s n : Nat} {Q : St → Prop} (hp : p < 200) (hn : n ≤ 8) (hs : s + n ≤ 64) (h1 : A 1 p = 1) (h2 : A 2 p = nI s) (h3 : A 3 p = nI n) (hq : Q (va_up A 0 (wr_F (A 0) s (A 4 p) n), V, w)) : ∀ (d i m : Nat), i + d = n → d < m → wl_M_carryOut_9 Q m (va_up A 0 (wr_F (A 0) s (A 4 p) i), V, w) (nI p) (nI i) := by
  have hv : vp_in (nI p) 200 := nu_in hp (by omega)
  intro d
  induction d with
  | zero =>
    intro i m hi hm
    obtain ⟨m, rfl⟩ : ∃ k, m = k + 1 := ⟨m - 1, by omega⟩
    have e : i = n := by omega
    subst e
    have e3 : va_up A 0 (wr_F (A 0) s (A 4 p) i) 3 = A 3 := rfl
    rw [wl_M_carryOut_9]
    dsimp only
    rw [nu_cl (i := p) (by omega), e3, h3]
    exact ⟨hv, fun _ => hq, fun hc => absurd ((nu_le (by omega) (by omega)).mpr (Nat.le_refl _)) hc⟩
  | succ d ih =>
    intro i m hi hm
    obtain ⟨m, rfl⟩ : ∃ k, m = k + 1 := ⟨m - 1, by omega⟩
    have e1 : va_up A 0 (wr_F (A 0) s (A 4 p) i) 1 = A 1 := rfl
    have e2 : va_up A 0 (wr_F (A 0) s (A 4 p) i) 2 = A 2 := rfl
    have e3 : va_up A 0 (wr_F (A 0) s (A 4 p) i) 3 = A 3 := rfl
    have e4 : va_up A 0 (wr_F (A 0) s (A 4 p) i) 4 = A 4 := rfl
    rw [wl_M_carryOut_9]
    dsimp only
    rw [nu_cl (i := p) (by omega), e3, e1, e2, e4, h3, h2, nI_add, nu_cl (i := s + i) (by omega)]
    refine ⟨hv, fun hc => absurd ((nu_le (by omega) (by omega)).mp hc) (by omega), fun _ => ⟨hv, fun hc => absurd h1 hc, fun _ => ⟨hv, hv, nu_in (by omega) (by omega), ?_⟩⟩⟩
    have e5 : sA (va_up A 0 (wr_F (A 0) s (A 4 p) i), V, w) 0 (s + i) (A 4 p + nI i) = (va_up A 0 (wr_F (A 0) s (A 4 p) (i + 1)), V, w) := by
      unfold sA
      have e6 : va_up A 0 (wr_F (A 0) s (A 4 p) i) 0 = wr_F (A 0) s (A 4 p) i := by simp [va_up]
      dsimp only
      rw [e6, wr_s, up_2]
    rw [e5, nI_1]
    exact ih (i + 1) m (by omega) (by omega)
theorem pm_carry_r {A : Nat → Nat → Int32} {V : Nat → Int32} {w : Nat → Int64} {p s n : Nat} {Q : St → Prop} (hp : p < 200) (hn : n ≤ 8) (hs : s + n ≤ 64) (h1 : ¬ A 1 p = 1) (h2 : A 2 p = nI s) (h3 : A 3 p = nI n) (hq : Q (va_up A 7 (va_cpy (A 0) (A 7) s (8 * p) n), V, w)) : ∀ (d i m : Nat), i + d = n → d < m → wl_M_carryOut_9 Q m (va_up A 7 (va_cpy (A 0) (A 7) s (8 * p) i), V, w) (nI p) (nI i) := by
  have hv : vp_in (nI p) 200 := nu_in hp (by omega)
  intro d
  induction d with
  | zero =>
    intro i m hi hm
    obtain ⟨m, rfl⟩ : ∃ k, m = k + 1 := ⟨m - 1, by omega⟩
    have e : i = n := by omega
    subst e
    have e3 : va_up A 7 (va_cpy (A 0) (A 7) s (8 * p) i) 3 = A 3 := rfl
    rw [wl_M_carryOut_9]
    dsimp only
    rw [nu_cl (i := p) (by omega), e3, h3]
    exact ⟨hv, fun _ => hq, fun hc => absurd ((nu_le (by omega) (by omega)).mpr (Nat.le_refl _)) hc⟩
  | succ d ih =>
    intro i m hi hm
    obtain ⟨m, rfl⟩ : ∃ k, m = k + 1 := ⟨m - 1, by omega⟩
    have e0 : va_up A 7 (va_cpy (A 0) (A 7) s (8 * p) i) 0 = A 0 := rfl
    have e1 : va_up A 7 (va_cpy (A 0) (A 7) s (8 * p) i) 1 = A 1 := rfl
    have e2 : va_up A 7 (va_cpy (A 0) (A 7) s (8 * p) i) 2 = A 2 := rfl
    have e3 : va_up A 7 (va_cpy (A 0) (A 7) s (8 * p) i) 3 = A 3 := rfl
    have e8 : (8 * nI p) + nI i = nI (8 * p + i) := by rw [← nI_add, ← pk_mul]; rfl
    rw [wl_M_carryOut_9]
    dsimp only
    rw [nu_cl (i := p) (by omega), e3, e1, e2, e0, h3, h2, e8, nI_add, nu_cl (i := s + i) (by omega), nu_cl (i := 8 * p + i) (by omega)]
    refine ⟨hv, fun hc => absurd ((nu_le (by omega) (by omega)).mp hc) (by omega), fun _ => ⟨hv, fun _ => ⟨hv, nu_in (by omega) (by omega), nu_in (by omega) (by omega), ?_⟩, fun hc => absurd hc h1⟩⟩
    have e5 : sA (va_up A 7 (va_cpy (A 0) (A 7) s (8 * p) i), V, w) 7 (8 * p + i) (A 0 (s + i)) = (va_up A 7 (va_cpy (A 0) (A 7) s (8 * p) (i + 1)), V, w) := by
      unfold sA
      have e6 : va_up A 7 (va_cpy (A 0) (A 7) s (8 * p) i) 7 = va_cpy (A 0) (A 7) s (8 * p) i := by simp [va_up]
      dsimp only
      rw [e6, cpy_s, up_2]
    rw [e5, nI_1]
    exact ih (i + 1) m (by omega) (by omega)
/-- the reference's arrays behind carryOut -/
noncomputable def cp_M (A : Nat → Nat → Int32) (p : Nat) : Nat → Nat → Int32 := match bb (A 1 p = 1) with
  | true => va_up (va_up A 6 (upd (A 6) p 2)) 0 (wr_F (A 0) (A 2 p).toNatClampNeg (A 4 p) (A 3 p).toNatClampNeg)
  | false => va_up (va_up A 6 (upd (A 6) p 2)) 7 (va_cpy (A 0) (A 7) (A 2 p).toNatClampNeg (8 * p) (A 3 p).toNatClampNeg)
theorem pm_carryOut {A : Nat → Nat → Int32} {V : Nat → Int32} {w : Nat → Int64} {p s n : Nat} {Q : St → Prop} (hp : p < 200) (hn : n ≤ 8) (hs : s + n ≤ 64) (h2 : A 2 p = nI s) (h3 : A 3 p = nI n) (hq : Q (cp_M A p, V, w)) : wp_M_carryOut (A, V, w) (nI p) Q := by
  have hv : vp_in (nI p) 200 := nu_in hp (by omega)
  unfold wp_M_carryOut
  rw [nu_cl (i := p) (by omega)]
  refine ⟨hv, n + 1, ?_⟩
  unfold cp_M at hq
  rw [h2, h3, nu_cl (i := s) (by omega), nu_cl (i := n) (by omega)] at hq
  have es : sA (A, V, w) 6 p 2 = (va_up A 6 (upd (A 6) p 2), V, w) := rfl
  rw [es]
  by_cases h1 : A 1 p = 1
  · rw [bb_t.mpr h1] at hq
    have h := pm_carry_w (A := va_up A 6 (upd (A 6) p 2)) (V := V) (w := w) (Q := Q) hp hn hs h1 h2 h3 hq n 0 (n + 1) (by omega) (by omega)
    rw [wr_0] at h
    have e0 : va_up (va_up A 6 (upd (A 6) p 2)) 0 (va_up A 6 (upd (A 6) p 2) 0) = va_up A 6 (upd (A 6) p 2) := by
      funext j
      unfold va_up
      split
      · subst_vars; rfl
      · rfl
    rw [e0] at h
    exact h
  · rw [bb_f.mpr h1] at hq
    have h := pm_carry_r (A := va_up A 6 (upd (A 6) p 2)) (V := V) (w := w) (Q := Q) hp hn hs h1 h2 h3 hq n 0 (n + 1) (by omega) (by omega)
    rw [cpy_0] at h
    have e0 : va_up (va_up A 6 (upd (A 6) p 2)) 7 (va_up A 6 (upd (A 6) p 2) 7) = va_up A 6 (upd (A 6) p 2) := by
      funext j
      unfold va_up
      split
      · subst_vars; rfl
      · rfl
    rw [e0] at h
    exact h
/-- the component's arrays behind Parts.carryOut -/
noncomputable def cp_E (G : Nat → Nat → Int32) (p : Nat) : Nat → Nat → Int32 := match bb (G 1 p = 1) with
  | true => va_up (va_up G 0 (va_cpy (G 6) (G 0) (8 * p) (G 2 p).toNatClampNeg (G 3 p).toNatClampNeg)) 5 (upd (G 5) p 1)
  | false => va_up (va_up G 6 (va_cpy (G 0) (G 6) (G 2 p).toNatClampNeg (8 * p) (G 3 p).toNatClampNeg)) 5 (upd (G 5) p 1)
theorem pe_carryOut {G : Nat → Nat → Int32} {V : Nat → Int32} {w : Nat → Int64} {p s n : Nat} {Q : St → Prop} (hp : p < 200) (hn : n ≤ 8) (hs : s + n ≤ 64) (h2 : G 2 p = nI s) (h3 : G 3 p = nI n) (hq : Q (cp_E G p, V, w)) : wp_P_carryOut (G, V, w) (nI p) Q := by
  have hv : vp_in (nI p) 200 := nu_in hp (by omega)
  have e8 : nI p * 8 = nI (8 * p) := by rw [Nat.mul_comm, ← pk_mul]; rfl
  have b60 : ∀ G' : Nat → Nat → Int32, G' 5 = G 5 → Q (va_up G' 5 (upd (G 5) p 1), V, w) → wb_P_carryOut_60 Q (G', V, w) (nI p) := by
    intro G' h5 hq
    unfold wb_P_carryOut_60
    rw [nu_cl (i := p) (by omega), nb_1]
    refine ⟨hv, ?_⟩
    have e : sA (G', V, w) 5 p 1 = (va_up G' 5 (upd (G 5) p 1), V, w) := by
      unfold sA
      dsimp only
      rw [h5]
    rw [e]
    exact hq
  unfold cp_E at hq
  rw [h2, h3, nu_cl (i := s) (by omega), nu_cl (i := n) (by omega)] at hq
  unfold wp_P_carryOut
  dsimp only
  rw [nu_cl (i := p) (by omega), h2, h3, e8, nu_cl (i := s) (by omega), nu_cl (i := n) (by omega), nu_cl (i := 8 * p) (by omega)]
  refine ⟨hv, fun a => ⟨hv, hv, nu_neg (by omega), nu_neg (by omega), nu_neg (by omega), by omega, by omega, ?_⟩, fun a => ⟨hv, hv, nu_neg (by omega), nu_neg (by omega), nu_neg (by omega), by omega, by omega, ?_⟩⟩
  · rw [bb_f.mpr a] at hq
    exact b60 _ rfl hq
  · rw [bb_t.mpr a] at hq
    exact b60 _ rfl hq
-- which arrays stay
theorem cp_M_keep (A : Nat → Nat → Int32) (p : Nat) (j : Nat) (h0 : ¬ j = 0) (h6 : ¬ j = 6) (h7 : ¬ j = 7) : cp_M A p j = A j := by
  unfold cp_M
  cases bb (A 1 p = 1) <;> simp [va_up, h0, h6, h7]
theorem cp_M_6 (A : Nat → Nat → Int32) (p : Nat) : cp_M A p 6 = upd (A 6) p 2 := by
  unfold cp_M
  cases bb (A 1 p = 1) <;> rfl
theorem cp_E_keep (G : Nat → Nat → Int32) (p : Nat) (j : Nat) (h0 : ¬ j = 0) (h5 : ¬ j = 5) (h6 : ¬ j = 6) : cp_E G p j = G j := by
  unfold cp_E
  cases bb (G 1 p = 1) <;> simp [va_up, h0, h5, h6]
theorem cp_E_5 (G : Nat → Nat → Int32) (p : Nat) : cp_E G p 5 = upd (G 5) p 1 := by
  unfold cp_E
  cases bb (G 1 p = 1) <;> rfl
/-- one part done, on both sides -/
theorem cp_DR {G A : Nat → Nat → Int32} {P p s n : Nat} (hd : DR G A P) (hp : p < P) (hP : P ≤ 200) (g1 : G 1 p = A 1 p) (g2 : G 2 p = A 2 p) (g3 : G 3 p = A 3 p) (h2 : A 2 p = nI s) (h3 : A 3 p = nI n) (hn : n ≤ 8) (hs : s + n ≤ 64) (hw : A 1 p = 0 ∨ A 1 p = 1) (h6 : A 6 p = 1) : DR (cp_E G p) (cp_M A p) P := by
  obtain ⟨d0, d5, d6, df⟩ := hd
  have e3 : cp_M A p 3 = A 3 := cp_M_keep A p 3 (by decide) (by decide) (by decide)
  have e1 : cp_M A p 1 = A 1 := cp_M_keep A p 1 (by decide) (by decide) (by decide)
  have e4 : cp_M A p 4 = A 4 := cp_M_keep A p 4 (by decide) (by decide) (by decide)
  have dd : (A 1 p = 1 ∧ cp_E G p 0 = va_cpy (G 6) (G 0) (8 * p) s n ∧ cp_E G p 6 = G 6 ∧ cp_M A p 0 = wr_F (A 0) s (A 4 p) n ∧ cp_M A p 7 = A 7) ∨ (A 1 p = 0 ∧ cp_E G p 0 = G 0 ∧ cp_E G p 6 = va_cpy (G 0) (G 6) s (8 * p) n ∧ cp_M A p 0 = A 0 ∧ cp_M A p 7 = va_cpy (A 0) (A 7) s (8 * p) n) := by
    unfold cp_E cp_M
    rw [g1, g2, g3, h2, h3, nu_cl (i := s) (by omega), nu_cl (i := n) (by omega)]
    rcases hw with h | h
    · right
      have hb : bb (A 1 p = 1) = false := bb_f.mpr (by rw [h]; decide)
      rw [hb]
      exact ⟨h, rfl, rfl, rfl, rfl⟩
    · left
      have hb : bb (A 1 p = 1) = true := bb_t.mpr h
      rw [hb]
      exact ⟨h, rfl, rfl, rfl, rfl⟩
  refine ⟨fun x hx => ?_, fun q hq => ?_, fun q m i hq hm3 hm hi => ?_, fun q hq => ?_⟩
  · rcases dd with ⟨hw1, c0, c6, m0, m7⟩ | ⟨hw0, c0, c6, m0, m7⟩
    · rw [c0, m0]
      unfold va_cpy wr_F
      by_cases h : s ≤ x ∧ x < s + n
      · rw [if_pos h, if_pos h]
        exact (d6 p n (x - s) hp h3 hn (by omega)).1 h6 hw1
      · rw [if_neg h, if_neg h]
        exact d0 x hx
    · rw [c0, m0]
      exact d0 x hx
  · rw [cp_E_5, cp_M_6]
    by_cases e : q = p
    · subst e
      rw [up_s, up_s]
      exact ⟨fun z => absurd z (by decide), fun z => absurd z (by decide)⟩
    · rw [up_n e, up_n e]
      exact d5 q hq
  · rw [e3] at hm3
    rw [cp_M_6, e1, e4]
    by_cases e : q = p
    · subst e
      have en : m = n := (nu_eq (by omega) (by omega)).mp (hm3.symm.trans h3)
      subst en
      rw [up_s]
      refine ⟨fun z => absurd z (by decide), fun _ z => ?_⟩
      rcases dd with ⟨hw1, _⟩ | ⟨hw0, c0, c6, m0, m7⟩
      · rw [hw1] at z; exact absurd z (by decide)
      · rw [c6, m7]
        unfold va_cpy
        rw [if_pos (by omega), if_pos (by omega)]
        exact d0 _ (by omega)
    · rw [up_n e]
      have key : cp_E G p 6 (8 * q + i) = G 6 (8 * q + i) ∧ cp_M A p 7 (8 * q + i) = A 7 (8 * q + i) := by
        rcases dd with ⟨hw1, c0, c6, m0, m7⟩ | ⟨hw0, c0, c6, m0, m7⟩
        · rw [c6, m7]; exact ⟨rfl, rfl⟩
        · rw [c6, m7]
          unfold va_cpy
          rw [if_neg (by omega), if_neg (by omega)]
          exact ⟨rfl, rfl⟩
      rw [key.1, key.2]
      exact d6 q m i hq hm3 hm hi
  · rw [cp_E_5, up_n (by omega)]
    exact df q hq
-- all parts of a request
noncomputable def fm_ (r : Nat) (A : Nat → Nat → Int32) (p : Nat) : Nat → Nat → Int32 := if bb (A 5 p = nI r) then cp_M A p else A
noncomputable def fe_ (r : Nat) (G : Nat → Nat → Int32) (p : Nat) : Nat → Nat → Int32 := if bb (G 4 p = nI r) then cp_E G p else G
theorem fm_keep (r : Nat) (A : Nat → Nat → Int32) (p j : Nat) (h0 : ¬ j = 0) (h6 : ¬ j = 6) (h7 : ¬ j = 7) : fm_ r A p j = A j := by
  unfold fm_
  split
  · exact cp_M_keep A p j h0 h6 h7
  · rfl
theorem fe_keep (r : Nat) (G : Nat → Nat → Int32) (p j : Nat) (h0 : ¬ j = 0) (h5 : ¬ j = 5) (h6 : ¬ j = 6) : fe_ r G p j = G j := by
  unfold fe_
  split
  · exact cp_E_keep G p j h0 h5 h6
  · rfl
theorem fm_fold (r : Nat) (S : List Nat) : ∀ (A : Nat → Nat → Int32) (j : Nat), ¬ j = 0 → ¬ j = 6 → ¬ j = 7 → S.foldl (fm_ r) A j = A j := by
  induction S with
  | nil => intro A j _ _ _; rfl
  | cons x S ih =>
    intro A j h0 h6 h7
    show S.foldl (fm_ r) (fm_ r A x) j = A j
    rw [ih _ j h0 h6 h7, fm_keep r A x j h0 h6 h7]
theorem fe_fold (r : Nat) (S : List Nat) : ∀ (G : Nat → Nat → Int32) (j : Nat), ¬ j = 0 → ¬ j = 5 → ¬ j = 6 → S.foldl (fe_ r) G j = G j := by
  induction S with
  | nil => intro G j _ _ _; rfl
  | cons x S ih =>
    intro G j h0 h5 h6
    show S.foldl (fe_ r) (fe_ r G x) j = G j
    rw [ih _ j h0 h5 h6, fe_keep r G x j h0 h5 h6]
/-- the states behind the reference's loop -/
theorem fm_6 (r : Nat) : ∀ (d i : Nat) (A : Nat → Nat → Int32) (q : Nat), (List.range' i d).foldl (fm_ r) A 6 q = if i ≤ q ∧ q < i + d ∧ A 5 q = nI r then 2 else A 6 q := by
  intro d
  induction d with
  | zero => intro i A q; rw [if_neg (by omega)]; rfl
  | succ d ih =>
    intro i A q
    show (List.range' (i + 1) d).foldl (fm_ r) (fm_ r A i) 6 q = _
    rw [ih, fm_keep r A i 5 (by decide) (by decide) (by decide)]
    unfold fm_
    by_cases h5 : A 5 i = nI r
    · rw [if_pos (bb_t.mpr h5), cp_M_6]
      by_cases e : q = i
      · subst e
        rw [if_neg (by omega), up_s, if_pos ⟨by omega, by omega, h5⟩]
      · rw [up_n e]
        by_cases hq : i + 1 ≤ q ∧ q < i + 1 + d ∧ A 5 q = nI r
        · rw [if_pos hq, if_pos ⟨by omega, by omega, hq.2.2⟩]
        · rw [if_neg hq, if_neg (fun z => hq ⟨by omega, by omega, z.2.2⟩)]
    · rw [if_neg (fun z => h5 (bb_t.mp z))]
      by_cases hq : i + 1 ≤ q ∧ q < i + 1 + d ∧ A 5 q = nI r
      · rw [if_pos hq, if_pos ⟨by omega, by omega, hq.2.2⟩]
      · rw [if_neg hq, if_neg (fun z => hq ⟨by
          have h1 : ¬ q = i := fun e => h5 (e ▸ z.2.2)
          omega, by omega, z.2.2⟩)]
/-- both loops in step -/
theorem f_DR {P B r : Nat} {A0 : Nat → Nat → Int32} (hI : IM A0 P B) (hP : P ≤ 200) : ∀ (d i : Nat) (G A : Nat → Nat → Int32), i + d = P → DR G A P → (∀ j, 1 ≤ j → j ≤ 5 → A j = A0 j) → (∀ p, p < P → G 1 p = A 1 p ∧ G 2 p = A 2 p ∧ G 3 p = A 3 p ∧ G 4 p = A 5 p) → (∀ p, i ≤ p → p < P → A 5 p = nI r → A 6 p = 1) → DR ((List.range' i d).foldl (fe_ r) G) ((List.range' i d).foldl (fm_ r) A) P := by
  intro d
  induction d with
  | zero => intro i G A _ hd _ _ _; exact hd
  | succ d ih =>
    intro i G A hi hd hA hG h6
    show DR ((List.range' (i + 1) d).foldl (fe_ r) (fe_ r G i)) ((List.range' (i + 1) d).foldl (fm_ r) (fm_ r A i)) P
    obtain ⟨g1, g2, g3, g4⟩ := hG i (by omega)
    obtain ⟨w1, _, ⟨s, n, e2, e3, e4, e5, e6⟩, _⟩ := hI.1 i (by omega)
    refine ih (i + 1) _ _ (by omega) ?_ (fun j h1 h2 => ?_) (fun p hp => ?_) (fun p h1 h2 h3 => ?_)
    · unfold fe_ fm_
      rw [g4]
      by_cases h5 : A 5 i = nI r
      · rw [if_pos (bb_t.mpr h5), if_pos (bb_t.mpr h5)]
        refine cp_DR hd (by omega) hP g1 g2 g3 (s := s) (n := n) ?_ ?_ e5 e6 ?_ (h6 i (Nat.le_refl _) (by omega) h5)
        · rw [hA 2 (by decide) (by decide)]; exact e2
        · rw [hA 3 (by decide) (by decide)]; exact e3
        · rw [hA 1 (by decide) (by decide)]; exact w1
      · rw [if_neg (fun z => h5 (bb_t.mp z)), if_neg (fun z => h5 (bb_t.mp z))]
        exact hd
    · rw [fm_keep r A i j (by omega) (by omega) (by omega)]
      exact hA j h1 h2
    · rw [fe_keep r G i 1 (by decide) (by decide) (by decide), fe_keep r G i 2 (by decide) (by decide) (by decide), fe_keep r G i 3 (by decide) (by decide) (by decide), fe_keep r G i 4 (by decide) (by decide) (by decide), fm_keep r A i 1 (by decide) (by decide) (by decide), fm_keep r A i 2 (by decide) (by decide) (by decide), fm_keep r A i 3 (by decide) (by decide) (by decide), fm_keep r A i 5 (by decide) (by decide) (by decide)]
      exact hG p hp
    · rw [fm_keep r A i 5 (by decide) (by decide) (by decide)] at h3
      have h7 := h6 p (by omega) h2 h3
      unfold fm_
      split
      · rw [cp_M_6, up_n (by omega)]; exact h7
      · exact h7
-- the loops themselves
theorem pm_disp_loop {A0 : Nat → Nat → Int32} {V : Nat → Int32} {w : Nat → Int64} {P B r : Nat} {Q : Int32 → St → Prop} (hI : IM A0 P B) (hP : P ≤ 200) (hV : V 0 = nI P) : ∀ (d i m : Nat) (A : Nat → Nat → Int32) (b : Int32), i + d = P → d < m → (∀ j, 1 ≤ j → j ≤ 5 → A j = A0 j) → Q ((List.range' i d).foldl (mb_S A0 (nI r)) b) ((List.range' i d).foldl (fm_ r) A, V, w) → wl_M_dispatch_94 Q m (A, V, w) (nI r) b (nI i) := by
  intro d
  induction d with
  | zero =>
    intro i m A b hi hm hA hq
    obtain ⟨m, rfl⟩ : ∃ k, m = k + 1 := ⟨m - 1, by omega⟩
    rw [wl_M_dispatch_94]
    dsimp only
    rw [hV]
    exact ⟨fun _ => hq, fun hc => absurd ((nu_le (by omega) (by omega)).mpr (by omega)) hc⟩
  | succ d ih =>
    intro i m A b hi hm hA hq
    obtain ⟨m, rfl⟩ : ∃ k, m = k + 1 := ⟨m - 1, by omega⟩
    have hc : ¬ nI P ≤ nI i := fun h => by have := (nu_le (by omega) (by omega)).mp h; omega
    have hv : vp_in (nI i) 200 := nu_in (by omega) (by omega)
    have hq : Q ((List.range' (i + 1) d).foldl (mb_S A0 (nI r)) (mb_S A0 (nI r) b i)) ((List.range' (i + 1) d).foldl (fm_ r) (fm_ r A i), V, w) := hq
    have e5 : A 5 = A0 5 := hA 5 (by decide) (by decide)
    obtain ⟨_, _, ⟨s, n, c2, c3, c4, c5, c6⟩, _⟩ := hI.1 i (by omega)
    rw [wl_M_dispatch_94]
    dsimp only
    rw [hV, nu_cl (i := i) (by omega)]
    refine ⟨fun h => absurd h hc, fun _ => ⟨hv, fun h => ?_, fun h => ?_⟩⟩
    · rw [nI_1]
      refine ih (i + 1) m A b (by omega) (by omega) hA ?_
      have e1 : mb_S A0 (nI r) b i = b := by unfold mb_S; rw [if_neg (by rw [← e5]; exact h)]
      have e2 : fm_ r A i = A := by unfold fm_; rw [if_neg (fun z => h (bb_t.mp z))]
      rw [e1, e2] at hq
      exact hq
    · refine pm_carryOut (by omega) c5 c6 (by rw [hA 2 (by decide) (by decide)]; exact c2) (by rw [hA 3 (by decide) (by decide)]; exact c3) ?_
      rw [nI_1]
      refine ih (i + 1) m (cp_M A i) (b + 1) (by omega) (by omega) (fun j h1 h2 => by rw [cp_M_keep A i j (by omega) (by omega) (by omega)]; exact hA j h1 h2) ?_
      have e1 : mb_S A0 (nI r) b i = b + 1 := by unfold mb_S; rw [if_pos (by rw [← e5]; exact h)]
      have e2 : fm_ r A i = cp_M A i := by unfold fm_; rw [if_pos (bb_t.mpr h)]
      rw [e1, e2] at hq
      exact hq
theorem pe_disp_loop {A0 : Nat → Nat → Int32} {V : Nat → Int32} {w : Nat → Int64} {P B r : Nat} {Q : St → Prop} (hI : IM A0 P B) (hP : P ≤ 200) (hV : V 0 = nI P) : ∀ (d i m : Nat) (G : Nat → Nat → Int32), i + d = P → d < m → (∀ p, p < P → G 2 p = A0 2 p ∧ G 3 p = A0 3 p) → wp_R_remove ((List.range' i d).foldl (fe_ r) G, V, w) (nI r) (fun u49 => wp_R_end u49 (nI r) (fun r58 u58 => Q (sI (sI u58 9 r58) 10 (nI r)))) → wl_E_carryOut_2 Q m (G, V, w) (nI r) (nI i) := by
  intro d
  induction d with
  | zero =>
    intro i m G hi hm hG hq
    obtain ⟨m, rfl⟩ : ∃ k, m = k + 1 := ⟨m - 1, by omega⟩
    rw [wl_E_carryOut_2]
    dsimp only
    rw [hV]
    exact ⟨fun _ => hq, fun hc => absurd ((nu_le (by omega) (by omega)).mpr (by omega)) hc⟩
  | succ d ih =>
    intro i m G hi hm hG hq
    obtain ⟨m, rfl⟩ : ∃ k, m = k + 1 := ⟨m - 1, by omega⟩
    have hc : ¬ nI P ≤ nI i := fun h => by have := (nu_le (by omega) (by omega)).mp h; omega
    have hv : vp_in (nI i) 200 := nu_in (by omega) (by omega)
    have hq : wp_R_remove ((List.range' (i + 1) d).foldl (fe_ r) (fe_ r G i), V, w) (nI r) (fun u49 => wp_R_end u49 (nI r) (fun r58 u58 => Q (sI (sI u58 9 r58) 10 (nI r)))) := hq
    obtain ⟨_, _, ⟨s, n, c2, c3, c4, c5, c6⟩, _⟩ := hI.1 i (by omega)
    obtain ⟨g2, g3⟩ := hG i (by omega)
    rw [wl_E_carryOut_2]
    dsimp only
    rw [hV, nu_cl (i := i) (by omega)]
    refine ⟨fun h => absurd h hc, fun _ => ⟨hv, fun h => ?_, fun h => ?_⟩⟩
    · rw [nI_1]
      refine ih (i + 1) m G (by omega) (by omega) hG ?_
      have e2 : fe_ r G i = G := by unfold fe_; rw [if_neg (fun z => h (bb_t.mp z))]
      rw [e2] at hq
      exact hq
    · refine pe_carryOut (by omega) c5 c6 (g2.trans c2) (g3.trans c3) ?_
      rw [nI_1]
      refine ih (i + 1) m (cp_E G i) (by omega) (by omega) (fun p hp => by rw [cp_E_keep G i 2 (by decide) (by decide) (by decide), cp_E_keep G i 3 (by decide) (by decide) (by decide)]; exact hG p hp) ?_
      have e2 : fe_ r G i = cp_E G i := by unfold fe_; rw [if_pos (bb_t.mpr h)]
      rw [e2] at hq
      exact hq
-- the queue without one
theorem pe_remove_loop {G : Nat → Nat → Int32} {V : Nat → Int32} {w : Nat → Int64} {L : List Nat} {r : Nat} {Q : St → Prop} (hV : V 1 = nI L.length) (hl : L.length ≤ 24) (hb : ∀ q, q ∈ L → q < 200) (hr : r < 200)
    (hq : ∀ F : Nat → Int32, (∀ j q, (L.filter (fun x => !(x == r)))[j]? = some q → F j = nI q) → Q (va_up G 14 F, va_up V 1 (nI (L.filter (fun x => !(x == r))).length), w)) :
    ∀ (S : List Nat) (i m : Nat) (K : List Nat) (F : Nat → Int32), L.drop i = S → i ≤ L.length → S.length < m → K ++ S.filter (fun x => !(x == r)) = L.filter (fun x => !(x == r)) → K.length ≤ i → (∀ j q, K[j]? = some q → F j = nI q) → (∀ j q, i ≤ j → L[j]? = some q → F j = nI q) → wl_R_remove_4 Q m (va_up G 14 F, V, w) (nI r) (nI K.length) (nI i) := by
  intro S
  induction S with
  | nil =>
    intro i m K F hS hi hm hK hKi hF1 hF2
    obtain ⟨m, rfl⟩ : ∃ k, m = k + 1 := ⟨m - 1, by simp at hm; omega⟩
    have h1 := dr_nil hS
    have hK : K = L.filter (fun x => !(x == r)) := by simpa using hK
    rw [wl_R_remove_4]
    dsimp only
    rw [hV]
    refine ⟨fun _ => ?_, fun hc => absurd ((nu_le (by omega) (by omega)).mpr (by omega)) hc⟩
    have := hq F (by rw [← hK]; exact hF1)
    rw [← hK] at this
    exact this
  | cons q S ih =>
    intro i m K F hS hi hm hK hKi hF1 hF2
    obtain ⟨m, rfl⟩ : ∃ k, m = k + 1 := ⟨m - 1, by simp at hm; omega⟩
    obtain ⟨h1, h2, h3⟩ := dr_cons hS
    have hm' : S.length < m := by simp at hm; omega
    have hc : ¬ nI L.length ≤ nI i := fun h => by have := (nu_le (by omega) (by omega)).mp h; omega
    have hv : vp_in (nI i) 24 := nu_in (by omega) (by omega)
    have hFi : F i = nI q := hF2 i q (Nat.le_refl _) h1
    have hqb : q < 200 := hb q (List.mem_of_getElem? h1)
    have e14 : va_up G 14 F 14 = F := by simp [va_up]
    rw [wl_R_remove_4]
    dsimp only
    rw [hV, e14, nu_cl (i := i) (by omega), hFi]
    refine ⟨fun h => absurd h hc, fun _ => ⟨hv, fun h => ?_, fun h => ?_⟩⟩
    · have e : q = r := (nu_eq (by omega) (by omega)).mp h
      rw [nI_1]
      refine ih (i + 1) m K F h2 (by omega) hm' ?_ (by omega) hF1 (fun j x hj => hF2 j x (by omega))
      rw [List.filter_cons_of_neg (by simp [e])] at hK
      exact hK
    · have hne : ¬ q = r := fun e => h (by rw [e])
      have hvk : vp_in (nI K.length) 24 := nu_in (by omega) (by omega)
      rw [nu_cl (i := K.length) (by omega)]
      refine ⟨hv, hvk, ?_⟩
      have es : sA (va_up G 14 F, V, w) 14 K.length (nI q) = (va_up G 14 (upd F K.length (nI q)), V, w) := by
        unfold sA
        dsimp only
        rw [e14, up_2]
      rw [es, nI_1, nI_1]
      have hk : K.length + 1 = (K ++ [q]).length := by simp
      rw [hk]
      refine ih (i + 1) m (K ++ [q]) (upd F K.length (nI q)) h2 (by omega) hm' ?_ (by simp; omega) (fun j x hj => ?_) (fun j x hj hx => ?_)
      · rw [List.filter_cons_of_pos (by simp [hne])] at hK
        rw [← hK]
        simp
      · rcases Nat.lt_or_ge j K.length with hlt | hge
        · rw [List.getElem?_append_left hlt] at hj
          rw [up_n (by omega)]
          exact hF1 j x hj
        · rw [List.getElem?_append_right hge] at hj
          have hz : j - K.length < 1 := (List.getElem?_eq_some_iff.mp hj).1
          have ej : j = K.length := by omega
          rw [show j - K.length = 0 by omega] at hj
          have ex : q = x := Option.some.inj hj
          rw [ej, up_s, ex]
      · rw [up_n (by omega)]
        exact hF2 j x (by omega) hx
theorem pe_remove {g : St} {L : List Nat} {r : Nat} {Q : St → Prop} (hL : qu_E g L) (hr : r < 200) (hq : ∀ F : Nat → Int32, (∀ j q, (L.filter (fun x => !(x == r)))[j]? = some q → F j = nI q) → Q (va_up g.1 14 F, va_up g.2.1 1 (nI (L.filter (fun x => !(x == r))).length), g.2.2)) : wp_R_remove g (nI r) Q := by
  have e0 : va_up g.1 14 (g.1 14) = g.1 := by
    funext j
    unfold va_up
    split
    · subst_vars; rfl
    · rfl
  have hb : ∀ q, q ∈ L → q < 200 := by
    intro q hq
    obtain ⟨i, hi⟩ := List.getElem?_of_mem hq
    exact (hL.2.2 i q hi).2
  have h := pe_remove_loop (G := g.1) (V := g.2.1) (w := g.2.2) (Q := Q) hL.1 hL.2.1 hb hr hq L 0 (L.length + 1) [] (g.1 14) rfl (by omega) (by omega) rfl (by simp) (fun j q hj => by simp at hj) (fun j q _ hj => (hL.2.2 j q hj).1)
  rw [e0] at h
  exact ⟨L.length + 1, h⟩
