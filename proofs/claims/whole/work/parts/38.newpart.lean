-- one part more: what the arrays are then
/-- the reference's arrays with part P come, in request j -/
def AN (A A' : Nat → Nat → Int32) (P j : Nat) (w v : Int32) (s n : Nat) : Prop :=
  (∀ p, p < P → A' 1 p = A 1 p ∧ A' 2 p = A 2 p ∧ A' 3 p = A 3 p ∧ A' 4 p = A 4 p ∧ A' 5 p = A 5 p ∧ A' 6 p = A 6 p ∧ A' 8 p = A 8 p ∧ A' 9 p = A 9 p) ∧
  (A' 0 = A 0 ∧ A' 7 = A 7 ∧ A' 10 = A 10) ∧
  (A' 1 P = w ∧ A' 2 P = nI s ∧ A' 3 P = nI n ∧ A' 4 P = v ∧ A' 5 P = nI j ∧ A' 6 P = 1)
theorem AN_wa {A A' : Nat → Nat → Int32} {P j : Nat} {w v : Int32} {s n : Nat} (h : AN A A' P j w v s n) {r : Nat} (hr : r < P) : wa_M A' r ↔ wa_M A r := by
  obtain ⟨h1, h2, h3, h4, h5, h6, _⟩ := h.1 r hr
  unfold wa_M
  rw [h5, h6]
theorem AN_cf {A A' : Nat → Nat → Int32} {P j : Nat} {w v : Int32} {s n : Nat} (h : AN A A' P j w v s n) {p q : Nat} (hp : p < P) (hq : q < P) : cf_M A' p q ↔ cf_M A p q := by
  obtain ⟨h1, h2, h3, _⟩ := h.1 p hp
  obtain ⟨k1, k2, k3, _⟩ := h.1 q hq
  unfold cf_M
  rw [h1, h2, h3, k1, k2, k3]
theorem AN_IM {A A' : Nat → Nat → Int32} {P B j : Nat} {w v : Int32} {s n : Nat} (hI : IM A P B) (hP : P < 200) (hB : B ≤ 4000) (h : AN A A' P j w v s n) (hw : w = 0 ∨ w = 1) (hn : 1 ≤ n ∧ n ≤ 8 ∧ s + n ≤ 64) (hj : (j = P ∧ A' 9 P = nI B) ∨ (j < P ∧ wa_M A j ∧ ∀ q, q < P → A 6 q = 1 → ¬ cf_M A' P q)) : IM A' (P + 1) B := by
  obtain ⟨hp, _, a1, a2, a3, a4, a5, a6⟩ := h
  have h : AN A A' P j w v s n := ⟨hp, by assumption, a1, a2, a3, a4, a5, a6⟩
  have ne : ∀ r, r < P → ¬ r = P := fun r hr => by omega
  refine ⟨fun p hp1 => ?_, fun p q hp1 hqp h6 h5 hq6 => ?_, fun r hr h5 => ?_, fun r r' hrr hr' h5 h5' => ?_⟩
  · rcases Nat.lt_succ_iff_lt_or_eq.mp hp1 with hpP | rfl
    · obtain ⟨b1, b2, b3, b4, b5, b6, b8, b9⟩ := hp p hpP
      obtain ⟨c1, c2, ⟨s', n', c3, c4, c5⟩, z, hz, c6, c7, c8⟩ := hI.1 p hpP
      obtain ⟨_, _, _, _, d5, d6, _⟩ := hp z (by omega)
      exact ⟨by rw [b1]; exact c1, by rw [b6]; exact c2, ⟨s', n', by rw [b2]; exact c3, by rw [b3]; exact c4, c5⟩, z, hz, by rw [b5]; exact c6, by rw [d5]; exact c7, by rw [d6, b6]; exact c8⟩
    · refine ⟨by rw [a1]; exact hw, Or.inl a6, ⟨s, n, a2, a3, hn⟩, ?_⟩
      rcases hj with ⟨rfl, _⟩ | ⟨hj, hwj, _⟩
      · exact ⟨j, Nat.le_refl _, a5, a5, rfl⟩
      · obtain ⟨_, _, _, _, d5, d6, _⟩ := hp j hj
        exact ⟨j, by omega, a5, by rw [d5]; exact hwj.2, by rw [d6, a6]; exact hwj.1⟩
  · rcases Nat.lt_succ_iff_lt_or_eq.mp hp1 with hpP | rfl
    · obtain ⟨_, _, _, _, b5, b6, _⟩ := hp p hpP
      obtain ⟨_, _, _, _, _, d6, _⟩ := hp q (by omega)
      rw [AN_cf h hpP (by omega)]
      exact hI.2.1 p q hpP hqp (by rw [← b6]; exact h6) (by rw [← b5]; exact h5) (by rw [← d6]; exact hq6)
    · obtain ⟨_, _, _, _, _, d6, _⟩ := hp q (by omega)
      rcases hj with ⟨rfl, _⟩ | ⟨hj, hwj, hc⟩
      · exact absurd a5 h5
      · exact hc q (by omega) (by rw [← d6]; exact hq6)
  · rcases Nat.lt_succ_iff_lt_or_eq.mp hr with hrP | rfl
    · obtain ⟨_, _, _, _, b5, _, _, b9⟩ := hp r hrP
      obtain ⟨b, hb1, hb2⟩ := hI.2.2.1 r hrP (by rw [← b5]; exact h5)
      exact ⟨b, hb1, by rw [b9]; exact hb2⟩
    · rcases hj with ⟨rfl, h9⟩ | ⟨hj, _⟩
      · exact ⟨B, Nat.le_refl _, h9⟩
      · exact absurd ((nu_eq (by omega) (by omega)).mp (a5.symm.trans h5)) (by omega)
  · rcases Nat.lt_succ_iff_lt_or_eq.mp hr' with hrP | rfl
    · obtain ⟨_, _, _, _, b5, _, _, b9⟩ := hp r (by omega)
      obtain ⟨_, _, _, _, c5, _, _, c9⟩ := hp r' hrP
      rw [b9, c9]
      exact hI.2.2.2 r r' hrr hrP (by rw [← b5]; exact h5) (by rw [← c5]; exact h5')
    · rcases Nat.lt_or_ge r r' with hlt | hge
      · rcases hj with ⟨rfl, h9⟩ | ⟨hj, _⟩
        · obtain ⟨_, _, _, _, b5, _, _, b9⟩ := hp r hlt
          obtain ⟨b, hb1, hb2⟩ := hI.2.2.1 r hlt (by rw [← b5]; exact h5)
          rw [b9, hb2, h9, nu_le (by omega) (by omega)]
          exact hb1
        · exact absurd ((nu_eq (by omega) (by omega)).mp (a5.symm.trans h5')) (by omega)
      · have e : r = r' := by omega
        subst e
        exact Int32.le_refl _
theorem AN_q {A A' : Nat → Nat → Int32} {P j : Nat} {w v : Int32} {s n : Nat} (hP : P < 200) (h : AN A A' P j w v s n) (hj : j ≤ P) : qL A' (P + 1) = qL A P ++ (if j = P then [P] else []) := by
  have e1 : (List.range' 0 P).filter (fun r => bb (wa_M A' r)) = (List.range' 0 P).filter (fun r => bb (wa_M A r)) := by
    refine List.filter_congr (fun r hr => ?_)
    rw [List.mem_range'_1] at hr
    exact bb_iff (AN_wa h (by omega))
  unfold qL
  rw [List.range'_1_concat, List.filter_append, e1]
  congr 1
  have e2 : wa_M A' (0 + P) ↔ j = P := by
    rw [Nat.zero_add]
    obtain ⟨_, _, _, _, _, _, a5, a6⟩ := h
    unfold wa_M
    rw [a5, a6, nu_eq (by omega) (by omega)]
    exact ⟨fun z => z.2, fun z => ⟨rfl, z⟩⟩
  by_cases hjP : j = P
  · rw [if_pos hjP, Nat.zero_add]
    rw [Nat.zero_add] at e2
    exact List.filter_cons_of_pos (bb_t.mpr (e2.mpr hjP))
  · rw [if_neg hjP, Nat.zero_add]
    rw [Nat.zero_add] at e2
    exact List.filter_cons_of_neg (fun z => hjP (e2.mp (bb_t.mp z)))
-- the folds
theorem fold_id {α : Type} {f : α → Nat → α} {P : Nat} (h : ∀ b p, p < P → f b p = b) : ∀ (d i : Nat) (b : α), i + d ≤ P → (List.range' i d).foldl f b = b := by
  intro d
  induction d with
  | zero => intro i b _; rfl
  | succ d ih =>
    intro i b hi
    show (List.range' (i + 1) d).foldl f (f b i) = b
    rw [h b i (by omega)]
    exact ih (i + 1) b (by omega)
theorem AN_st {A A' : Nat → Nat → Int32} {P j : Nat} {w v : Int32} {s n : Nat} (hP : P < 200) (h : AN A A' P j w v s n) (hj : j ≤ P) {r : Nat} (hr : r ≤ P) : st_F A' (nI r) (P + 1) = (if j = r then (if st_F A (nI r) P ≤ nI s then st_F A (nI r) P else nI s) else st_F A (nI r) P) ∧ ln_F A' (nI r) (P + 1) = (if j = r then ln_F A (nI r) P + nI n else ln_F A (nI r) P) ∧ mb_F A' (nI r) (P + 1) = (if j = r then mb_F A (nI r) P + 1 else mb_F A (nI r) P) := by
  obtain ⟨hp, _, a1, a2, a3, a4, a5, a6⟩ := h
  have e5 : (A' 5 P = nI r) = (j = r) := by rw [a5]; exact propext (nu_eq (by omega) (by omega))
  have f1 : (List.range' 0 P).foldl (st_S A' (nI r)) 64 = st_F A (nI r) P := by
    refine fold_lt (P := P) (fun b p hpP => ?_) P 0 64 (by omega)
    obtain ⟨_, b2, _, _, b5, _⟩ := hp p hpP
    unfold st_S
    rw [b2, b5]
  have f2 : (List.range' 0 P).foldl (ln_S A' (nI r)) 0 = ln_F A (nI r) P := by
    refine fold_lt (P := P) (fun b p hpP => ?_) P 0 0 (by omega)
    obtain ⟨_, _, b3, _, b5, _⟩ := hp p hpP
    unfold ln_S
    rw [b3, b5]
  have f3 : (List.range' 0 P).foldl (mb_S A' (nI r)) 0 = mb_F A (nI r) P := by
    refine fold_lt (P := P) (fun b p hpP => ?_) P 0 0 (by omega)
    obtain ⟨_, _, _, _, b5, _⟩ := hp p hpP
    unfold mb_S
    rw [b5]
  refine ⟨?_, ?_, ?_⟩
  · unfold st_F at f1 ⊢
    rw [fold_1, f1]
    unfold st_S
    simp only [e5, a2]
  · unfold ln_F at f2 ⊢
    rw [fold_1, f2]
    unfold ln_S
    simp only [e5, a3]
  · unfold mb_F at f3 ⊢
    rw [fold_1, f3]
    unfold mb_S
    simp only [e5]
/-- nobody is in request P yet -/
theorem no_P {A : Nat → Nat → Int32} {P B : Nat} (hI : IM A P B) (hP : P < 200) : st_F A (nI P) P = 64 ∧ ln_F A (nI P) P = 0 ∧ mb_F A (nI P) P = 0 := by
  have h : ∀ p, p < P → ¬ A 5 p = nI P := by
    intro p hp e
    obtain ⟨z, h1, h2⟩ := IM_req hI p hp
    have := (nu_eq (by omega) (by omega)).mp (h2.symm.trans e)
    omega
  refine ⟨fold_id (P := P) (fun b p hp => ?_) P 0 64 (by omega), fold_id (P := P) (fun b p hp => ?_) P 0 0 (by omega), fold_id (P := P) (fun b p hp => ?_) P 0 0 (by omega)⟩
  · unfold st_S; rw [if_neg (h p hp)]
  · unfold ln_S; rw [if_neg (h p hp)]
  · unfold mb_S; rw [if_neg (h p hp)]
/-- the component's arrays with part P come, in request j -/
def GN (G G' A' : Nat → Nat → Int32) (P j : Nat) (w v : Int32) (s n : Nat) : Prop :=
  (∀ p, p < P → G' 1 p = G 1 p ∧ G' 2 p = G 2 p ∧ G' 3 p = G 3 p ∧ G' 4 p = G 4 p) ∧
  (G' 0 = G 0 ∧ G' 5 = G 5 ∧ G' 6 = wr_F (G 6) (8 * P) v n) ∧
  (G' 1 P = w ∧ G' 2 P = nI s ∧ G' 3 P = nI n ∧ G' 4 P = nI j) ∧
  (∀ r, r < P → ¬ r = j → G' 7 r = G 7 r ∧ G' 8 r = G 8 r ∧ G' 9 r = G 9 r ∧ G' 10 r = G 10 r ∧ G' 11 r = G 11 r ∧ G' 12 r = G 12 r) ∧
  (j < P → G' 7 j = G 7 j ∧ G' 8 j = (if nI s < G 8 j then nI s else G 8 j) ∧ G' 9 j = G 9 j + nI n ∧ G' 10 j = G 10 j + 1 ∧ G' 11 j = G 11 j ∧ G' 12 j = G 12 j) ∧
  (j = P → G' 7 P = w ∧ G' 8 P = nI s ∧ G' 9 P = nI n ∧ G' 10 P = 1 ∧ G' 11 P = A' 8 P ∧ G' 12 P = A' 9 P)
theorem GN_PR {G G' A A' : Nat → Nat → Int32} {P B j : Nat} {w v : Int32} {s n : Nat} (hI : IM A P B) (hP : P < 200) (hp : PR G A P) (h : AN A A' P j w v s n) (hg : GN G G' A' P j w v s n) (hj : j ≤ P) (hs : s + n ≤ 64 ∧ 1 ≤ n) : PR G' A' (P + 1) := by
  obtain ⟨g1, _, ⟨g2, g3, g4, g5⟩, g6, g7, g8⟩ := hg
  have hAN := h
  obtain ⟨h1, _, a1, a2, a3, a4, a5, a6⟩ := h
  refine ⟨fun p hp1 => ?_, fun r hr hw => ?_⟩
  · rcases Nat.lt_succ_iff_lt_or_eq.mp hp1 with hpP | rfl
    · obtain ⟨b1, b2, b3, b4⟩ := g1 p hpP
      obtain ⟨c1, c2, c3, c4⟩ := hp.1 p hpP
      obtain ⟨d1, d2, d3, _, d5, _⟩ := h1 p hpP
      exact ⟨by rw [b1, d1]; exact c1, by rw [b2, d2]; exact c2, by rw [b3, d3]; exact c3, by rw [b4, d5]; exact c4⟩
    · exact ⟨by rw [g2, a1], by rw [g3, a2], by rw [g4, a3], by rw [g5, a5]⟩
  · obtain ⟨f1, f2, f3⟩ := AN_st hP hAN hj (r := r) (by omega)
    rw [f1, f2, f3]
    rcases Nat.lt_succ_iff_lt_or_eq.mp hr with hrP | rfl
    · have hw0 : wa_M A r := (AN_wa hAN hrP).mp hw
      obtain ⟨q7, q8, q9, q10, q11, q12⟩ := hp.2 r hrP hw0
      obtain ⟨d1, _, _, _, _, _, d8, d9⟩ := h1 r hrP
      rw [d1, d8, d9]
      by_cases e : j = r
      · subst e
        obtain ⟨b7, b8, b9, b10, b11, b12⟩ := g7 hrP
        rw [if_pos rfl, if_pos rfl, if_pos rfl, b7, b8, b9, b10, b11, b12, q8, q9, q10]
        refine ⟨q7, ?_, rfl, rfl, q11, q12⟩
        by_cases hlt : nI s < st_F A (nI j) P
        · rw [if_pos hlt, if_neg (Int32.not_le.mpr hlt)]
        · rw [if_neg hlt, if_pos (Int32.not_lt.mp hlt)]
      · obtain ⟨b7, b8, b9, b10, b11, b12⟩ := g6 r hrP (fun z => e z.symm)
        rw [if_neg e, if_neg e, if_neg e, b7, b8, b9, b10, b11, b12]
        exact ⟨q7, q8, q9, q10, q11, q12⟩
    · have e : j = r := by
        have := hw.2
        rw [a5] at this
        exact (nu_eq (by omega) (by omega)).mp this
      subst e
      obtain ⟨b7, b8, b9, b10, b11, b12⟩ := g8 rfl
      obtain ⟨n1, n2, n3⟩ := no_P hI hP
      rw [if_pos rfl, if_pos rfl, if_pos rfl, n1, n2, n3, b7, b8, b9, b10, b11, b12, a1]
      have h64 : ¬ (64 : Int32) ≤ nI s := fun z => by
        have := (nu_le (a := 64) (by omega) (by omega)).mp z
        omega
      rw [if_neg h64]
      exact ⟨rfl, rfl, by rw [Int32.zero_add], by rw [Int32.zero_add], rfl, rfl⟩
theorem GN_DR {G G' A A' : Nat → Nat → Int32} {P B j : Nat} {w v : Int32} {s n : Nat} (hI : IM A P B) (hP : P < 200) (hd : DR G A P) (h : AN A A' P j w v s n) (hg : GN G G' A' P j w v s n) (hn : n ≤ 8) : DR G' A' (P + 1) := by
  obtain ⟨g1, ⟨g20, g25, g26⟩, _⟩ := hg
  obtain ⟨h1, ⟨h20, h27, _⟩, a1, a2, a3, a4, a5, a6⟩ := h
  refine ⟨fun x hx => by rw [g20, h20]; exact hd.1 x hx, fun p hp1 => ?_, fun p m i hp1 h3 hm hi => ?_, fun p hp1 => by rw [g25]; exact hd.2.2.2 p (by omega)⟩
  · rw [g25]
    rcases Nat.lt_succ_iff_lt_or_eq.mp hp1 with hpP | rfl
    · rw [(h1 p hpP).2.2.2.2.2.1]
      exact hd.2.1 p hpP
    · exact ⟨fun _ => a6, fun _ => hd.2.2.2 p (Nat.le_refl _)⟩
  · rw [g26, h27]
    unfold wr_F
    rcases Nat.lt_succ_iff_lt_or_eq.mp hp1 with hpP | rfl
    · obtain ⟨d1, d2, d3, d4, d5, d6, _⟩ := h1 p hpP
      rw [if_neg (by omega), d1, d4, d6]
      exact hd.2.2.1 p m i hpP (by rw [← d3]; exact h3) hm hi
    · have e : m = n := (nu_eq (by omega) (by omega)).mp (h3.symm.trans a3)
      subst e
      rw [if_pos (by omega), a4]
      refine ⟨fun _ _ => ?_, fun z => absurd a6 z⟩
      congr 2
      omega
