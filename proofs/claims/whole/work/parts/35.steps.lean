-- the calls that change little
theorem sI_s (g : St) (k : Nat) (x : Int32) : (sI g k x).2.1 k = x := by simp [sI, va_up]
theorem sI_n (g : St) {j k : Nat} (x : Int32) (h : ¬ j = k) : (sI g k x).2.1 j = g.2.1 j := by simp [sI, va_up, h]
theorem pe_isWithin {g : St} {x m : Int32} {Q : Int32 → St → Prop} (hT : ¬ x < 0 → ¬ m < x → Q 1 g) (hF : (x < 0 ∨ m < x) → Q 0 g) : wp_E_isWithin g x m Q := by
  unfold wp_E_isWithin
  exact ⟨fun a => hF (Or.inl a), fun a => ⟨fun b => hF (Or.inr b), fun b => hT a b⟩⟩
theorem pe_has {g : St} {x : Int32} {P : Nat} {Q : Int32 → St → Prop} (g0 : g.2.1 0 = nI P) (hP : P ≤ 200) (hT : ∀ p, p < P → x = nI p → Q 1 g) (hF : (x < 0 ∨ nI P ≤ x) → Q 0 g) : wp_P_has g x Q := by
  unfold wp_P_has
  rw [g0]
  refine ⟨fun a => hF (Or.inl a), fun a => ⟨fun b => hF (Or.inr b), fun b => ?_⟩⟩
  rcases pk_ix x (n := P) (by omega) with h | h | ⟨j, h1, h2⟩
  · exact absurd h a
  · exact absurd h b
  · exact hT j h1 h2
theorem pm_isPart_t {h : St} {P p : Nat} {Q : Int32 → St → Prop} (h0 : h.2.1 0 = nI P) (hP : P ≤ 200) (hp : p < P) (hq : Q 1 h) : wp_M_isPart h (nI p) Q := by
  unfold wp_M_isPart
  rw [h0]
  exact ⟨fun a => absurd a (nu_neg (by omega)), fun _ => ⟨fun b => absurd ((nu_le (by omega) (by omega)).mp b) (by omega), fun _ => hq⟩⟩
theorem pm_isPart_f {h : St} {P : Nat} {x : Int32} {Q : Int32 → St → Prop} (h0 : h.2.1 0 = nI P) (hx : x < 0 ∨ nI P ≤ x) (hq : Q 0 h) : wp_M_isPart h x Q := by
  unfold wp_M_isPart
  rw [h0]
  exact ⟨fun _ => hq, fun a => ⟨fun _ => hq, fun b => absurd (hx.resolve_left a) b⟩⟩
/-- what a call owes: the reference's answer is the same, and the relation goes on -/
abbrev Ow (k : Nat) (r : Int32) (u : St) : Int32 → St → Prop := fun r' u' => r = r' ∧ Rel (k + 1) u u'
theorem st_barrier {k : Nat} {g h : St} (hR : Rel k g h) : wp_E_barrier g (fun r u => wp_M_barrier h (Ow k r u)) := by
  obtain ⟨P, B, hP, hB, h0, g0, h1, hI, hp, hd, hn, hq⟩ := hR
  unfold wp_E_barrier wp_M_barrier
  rw [sI_s, sI_s]
  obtain ⟨n1, n2, n3, n4, n5, n6, n7, n8, n9⟩ := hn
  refine ⟨by rw [n6], P, B + 1, hP, by omega, ?_, ?_, ?_, ⟨hI.1, hI.2.1, fun r hr h5 => ?_, hI.2.2.2⟩, hp, hd, ?_, ?_⟩
  · rw [sI_n _ _ (by decide)]; exact h0
  · rw [sI_n _ _ (by decide)]; exact g0
  · rw [sI_s, h1, nI_1]
  · obtain ⟨b, h2, h3⟩ := hI.2.2.1 r hr h5
    exact ⟨b, by omega, h3⟩
  · refine ⟨?_, ?_, ?_, ?_, ?_, ?_, ?_, ?_, ?_⟩
    · rw [sI_n _ _ (by decide), sI_n _ _ (by decide)]; exact n1
    · rw [sI_n _ _ (by decide), sI_n _ _ (by decide)]; exact n2
    · rw [sI_n _ _ (by decide), sI_n _ _ (by decide)]; exact n3
    · rw [sI_n _ _ (by decide)]; exact n4
    · rw [sI_n _ _ (by decide)]; exact n5
    · rw [sI_s, sI_s, n6]
    · rw [sI_n _ _ (by decide), sI_n _ _ (by decide)]; exact n7
    · rw [sI_n _ _ (by decide), sI_n _ _ (by decide)]; exact n8
    · rw [sI_n _ _ (by decide), sI_n _ _ (by decide)]; exact n9
  · exact ⟨by rw [sI_n _ _ (by decide)]; exact hq.1, hq.2⟩
theorem st_tick {k : Nat} {g h : St} (hR : Rel k g h) (x : Int32) : wp_E_tick g x (fun r u => wp_M_tick h x (Ow k r u)) := by
  have hR0 := hR
  obtain ⟨P, B, hP, hB, h0, g0, h1, hI, hp, hd, hn, hq⟩ := hR
  obtain ⟨n1, n2, n3, n4, n5, n6, n7, n8, n9⟩ := hn
  unfold wp_E_tick
  refine pe_isWithin (fun a b => ⟨fun _ => ?_, fun c => absurd c (by decide)⟩) (fun a => ⟨fun c => absurd rfl c, fun _ => ?_⟩)
  · unfold wp_M_tick
    refine ⟨fun c => absurd c a, fun _ => ⟨fun _ => ⟨rfl, P, B, hP, by omega, ?_, ?_, ?_, hI, hp, hd, ?_, ?_⟩, fun c => absurd (Int32.not_lt.mp b) c⟩⟩
    · rw [sI_n _ _ (by decide)]; exact h0
    · rw [sI_n _ _ (by decide)]; exact g0
    · rw [sI_n _ _ (by decide)]; exact h1
    · refine ⟨?_, ?_, ?_, ?_, ?_, ?_, ?_, ?_, ?_⟩
      · rw [sI_n _ _ (by decide), sI_n _ _ (by decide)]; exact n1
      · rw [sI_n _ _ (by decide), sI_n _ _ (by decide)]; exact n2
      · rw [sI_n _ _ (by decide), sI_n _ _ (by decide)]; exact n3
      · rw [sI_n _ _ (by decide)]; exact n4
      · rw [sI_n _ _ (by decide)]; exact n5
      · rw [sI_n _ _ (by decide), sI_n _ _ (by decide)]; exact n6
      · rw [sI_s, sI_s, n7]
      · rw [sI_n _ _ (by decide), sI_n _ _ (by decide)]; exact n8
      · rw [sI_n _ _ (by decide), sI_n _ _ (by decide)]; exact n9
    · exact ⟨by rw [sI_n _ _ (by decide)]; exact hq.1, hq.2⟩
  · unfold wp_M_tick
    exact ⟨fun _ => ⟨rfl, Rel_mono hR0⟩, fun c => ⟨fun d => absurd d (Int32.not_le.mpr (a.resolve_left c)), fun _ => ⟨rfl, Rel_mono hR0⟩⟩⟩
theorem st_state {k : Nat} {g h : St} (hR : Rel k g h) (x : Int32) : wp_E_state g x (fun r u => wp_M_state h x (Ow k r u)) := by
  have hR0 := hR
  obtain ⟨P, B, hP, hB, h0, g0, h1, hI, hp, hd, hn, hq⟩ := hR
  unfold wp_E_state
  refine pe_has g0 hP (fun p hpP e => ⟨fun _ => ?_, fun c => absurd c (by decide)⟩) (fun a => ⟨fun c => absurd rfl c, fun _ => ?_⟩)
  · subst e
    have hv : vp_in (nI p) 200 := nu_in (by omega) (by omega)
    rw [nu_cl (by omega)]
    refine ⟨hv, fun a => ?_, fun a => ?_⟩
    · unfold wp_M_state
      refine pm_isPart_t h0 hP hpP ⟨fun c => absurd c (by decide), fun _ => ⟨hv, ?_⟩⟩
      rw [nu_cl (by omega)]
      exact ⟨((hd.2.1 p hpP).mp a).symm, Rel_mono hR0⟩
    · unfold wp_M_state
      refine pm_isPart_t h0 hP hpP ⟨fun c => absurd c (by decide), fun _ => ⟨hv, ?_⟩⟩
      rw [nu_cl (by omega)]
      exact ⟨((hI.1 p hpP).2.1.resolve_left (fun z => a ((hd.2.1 p hpP).mpr z))).symm, Rel_mono hR0⟩
  · unfold wp_M_state
    exact pm_isPart_f h0 a ⟨fun _ => ⟨rfl, Rel_mono hR0⟩, fun c => absurd rfl c⟩
theorem st_sector {k : Nat} {g h : St} (hR : Rel k g h) (x : Int32) : wp_E_sector g x (fun r u => wp_M_sector h x (Ow k r u)) := by
  have hR0 := hR
  obtain ⟨P, B, hP, hB, h0, g0, h1, hI, hp, hd, hn, hq⟩ := hR
  unfold wp_E_sector
  refine pe_isWithin (fun a b => ⟨fun c => absurd c (by decide), fun _ => ?_⟩) (fun a => ⟨fun _ => ?_, fun c => absurd rfl c⟩)
  · have hx : x ≤ 63 := Int32.not_lt.mp b
    obtain ⟨j, hj, rfl⟩ : ∃ j, j ≤ 63 ∧ x = nI j := nI_of2 (M := 63) (n := 63) (by decide) a hx
    have hv : vp_in (nI j) 64 := nu_in (by omega) (by omega)
    rw [nu_cl (by omega)]
    refine ⟨hv, ?_⟩
    unfold wp_M_sector
    rw [nu_cl (by omega)]
    exact ⟨fun c => absurd c a, fun _ => ⟨fun _ => ⟨hv, hd.1 j (by omega), Rel_mono hR0⟩, fun c => absurd hx c⟩⟩
  · unfold wp_M_sector
    exact ⟨fun _ => ⟨rfl, Rel_mono hR0⟩, fun c => ⟨fun d => absurd d (Int32.not_le.mpr (a.resolve_left c)), fun _ => ⟨rfl, Rel_mono hR0⟩⟩⟩
theorem st_latest {k : Nat} {g h : St} (hR : Rel k g h) : wp_E_latest g (fun r u => wp_M_latest h (Ow k r u)) := by
  have hR0 := hR
  obtain ⟨P, B, hP, hB, h0, g0, h1, hI, hp, hd, hn, hq⟩ := hR
  exact ⟨hn.2.2.2.2.2.2.2.2, Rel_mono hR0⟩
theorem st_head {k : Nat} {g h : St} (hR : Rel k g h) : wp_E_head g (fun r u => wp_M_head h (Ow k r u)) := by
  have hR0 := hR
  obtain ⟨P, B, hP, hB, h0, g0, h1, hI, hp, hd, hn, hq⟩ := hR
  exact ⟨hn.2.2.2.2.2.2.2.1, Rel_mono hR0⟩
theorem st_now {k : Nat} {g h : St} (hR : Rel k g h) : wp_E_now g (fun r u => wp_M_now h (Ow k r u)) := by
  have hR0 := hR
  obtain ⟨P, B, hP, hB, h0, g0, h1, hI, hp, hd, hn, hq⟩ := hR
  exact ⟨hn.2.2.2.2.2.2.1, Rel_mono hR0⟩
theorem st_batch {k : Nat} {g h : St} (hR : Rel k g h) : wp_E_batch g (fun r u => wp_M_batch h (Ow k r u)) := by
  have hR0 := hR
  obtain ⟨P, B, hP, hB, h0, g0, h1, hI, hp, hd, hn, hq⟩ := hR
  refine ⟨?_, Rel_mono hR0⟩
  rw [hn.1, hn.2.1, hn.2.2.1]
-- how many wait
theorem ct_wait (A : Nat → Nat → Int32) (P : Nat) (w : Int32) : (List.range' 0 P).foldl (cw_M A w) 0 = nI ((List.range' 0 P).countP (fun r => bb (wa_M A r ∧ A 1 r = w))) := by
  have h := ct_nat (c := fun r => bb (wa_M A r ∧ A 1 r = w)) (List.range' 0 P) 0
  rw [Nat.zero_add] at h
  exact h
theorem wait_sum {A : Nat → Nat → Int32} {P B : Nat} (hI : IM A P B) : (List.range' 0 P).foldl (cw_M A 0) 0 + (List.range' 0 P).foldl (cw_M A 1) 0 = nI (qL A P).length := by
  rw [ct_wait, ct_wait, nI_add]
  congr 1
  refine ct_two _ (fun r hr => ⟨fun hf => ⟨bb_f.mpr (fun z => bb_f.mp hf z.1), bb_f.mpr (fun z => bb_f.mp hf z.1)⟩, fun ht => ?_⟩)
  have hr2 : r < P := by
    rw [List.mem_range'_1] at hr
    omega
  have hw := bb_t.mp ht
  rcases (hI.1 r hr2).1 with h | h
  · exact Or.inl ⟨bb_t.mpr ⟨hw, h⟩, bb_f.mpr (fun z => by rw [h] at z; exact absurd z.2 (by decide))⟩
  · exact Or.inr ⟨bb_f.mpr (fun z => by rw [h] at z; exact absurd z.2 (by decide)), bb_t.mpr ⟨hw, h⟩⟩
theorem pm_wait2 {h : St} {P B : Nat} {Q : Int32 → Int32 → St → Prop} (h0 : h.2.1 0 = nI P) (hP : P ≤ 200) (hI : IM h.1 P B) (hq : ∀ a b : Int32, a + b = nI (qL h.1 P).length → Q a b h) : wp_M_waiting h 0 (fun r u => wp_M_waiting u 1 (fun r' u' => Q r r' u')) := by
  refine pm_waiting h0 hP (fun z => ?_) (fun _ _ => pm_waiting h0 hP (fun z => ?_) (fun _ _ => hq _ _ (wait_sum hI)))
  · exact absurd z (by decide)
  · exact absurd z (by decide)
theorem st_expire {k : Nat} {g h : St} (hR : Rel k g h) (x y : Int32) : wp_E_expire g x y (fun r u => wp_M_expire h x y (Ow k r u)) := by
  have hR0 := hR
  obtain ⟨P, B, hP, hB, h0, g0, h1, hI, hp, hd, hn, hq⟩ := hR
  obtain ⟨n1, n2, n3, n4, n5, n6, n7, n8, n9⟩ := hn
  have bad : (0 < nI (qL h.1 P).length ∨ (x < 0 ∨ 10000 < x) ∨ (y < 0 ∨ 10000 < y)) → wp_M_expire h x y (Ow k 0 g) := by
    intro hb
    unfold wp_M_expire
    refine pm_wait2 (Q := fun r2 r7 u7 => ((0 < (r2 + r7) → Ow k 0 g 0 u7) ∧ (¬ 0 < (r2 + r7) → ((x < 0 → Ow k 0 g 0 u7) ∧ (¬ x < 0 → ((10000 < x → Ow k 0 g 0 u7) ∧ (¬ 10000 < x → ((y < 0 → Ow k 0 g 0 u7) ∧ (¬ y < 0 → ((y ≤ 10000 → (vp_in 0 2 ∧ (vp_in 1 2 ∧ Ow k 0 g 1 (sA (sA u7 10 (0 : Int32).toNatClampNeg x) 10 (1 : Int32).toNatClampNeg y)))) ∧ (¬ y ≤ 10000 → Ow k 0 g 0 u7))))))))))) h0 hP hI (fun a b e => ?_)
    have ok : Ow k 0 g 0 h := ⟨rfl, Rel_mono hR0⟩
    refine ⟨fun _ => ok, fun c1 => ⟨fun _ => ok, fun c2 => ⟨fun _ => ok, fun c3 => ⟨fun _ => ok, fun c4 => ⟨fun c5 => ?_, fun _ => ok⟩⟩⟩⟩⟩
    rw [e] at c1
    rcases hb with z | z | z
    · exact absurd z c1
    · exact absurd z (fun z => z.elim c2 c3)
    · exact absurd (z.resolve_left c4) (Int32.not_lt.mpr c5)
  have fin : ∀ z0 : Int32, (z0 = 0 → ((x < 0 ∨ 10000 < x) ∨ (y < 0 ∨ 10000 < y))) → (¬ z0 = 0 → ¬ x < 0 ∧ ¬ 10000 < x ∧ ¬ y < 0 ∧ ¬ 10000 < y) → wb_E_expire_25 (fun r u => wp_M_expire h x y (Ow k r u)) g x y z0 := by
    intro z0 hz hnz
    unfold wb_E_expire_25
    rw [hq.1]
    refine ⟨fun a => bad (Or.inl a), fun a => ⟨fun b => ?_, fun b => bad (Or.inr (hz b))⟩⟩
    obtain ⟨c1, c2, c3, c4⟩ := hnz b
    unfold wp_M_expire
    refine pm_wait2 (Q := fun r2 r7 u7 => ((0 < (r2 + r7) → Ow k 1 (sI (sI g 5 x) 6 y) 0 u7) ∧ (¬ 0 < (r2 + r7) → ((x < 0 → Ow k 1 (sI (sI g 5 x) 6 y) 0 u7) ∧ (¬ x < 0 → ((10000 < x → Ow k 1 (sI (sI g 5 x) 6 y) 0 u7) ∧ (¬ 10000 < x → ((y < 0 → Ow k 1 (sI (sI g 5 x) 6 y) 0 u7) ∧ (¬ y < 0 → ((y ≤ 10000 → (vp_in 0 2 ∧ (vp_in 1 2 ∧ Ow k 1 (sI (sI g 5 x) 6 y) 1 (sA (sA u7 10 (0 : Int32).toNatClampNeg x) 10 (1 : Int32).toNatClampNeg y)))) ∧ (¬ y ≤ 10000 → Ow k 1 (sI (sI g 5 x) 6 y) 0 u7))))))))))) h0 hP hI (fun r2 r7 e => ?_)
    refine ⟨fun d => absurd (e ▸ d) a, fun _ => ⟨fun d => absurd d c1, fun _ => ⟨fun d => absurd d c2, fun _ => ⟨fun d => absurd d c3, fun _ => ⟨fun _ => ⟨vp_in_nI (n := 0) (by decide) (by decide), vp_in_nI (n := 1) (by decide) (by decide), rfl, ?_⟩, fun d => absurd (Int32.not_lt.mp c4) d⟩⟩⟩⟩⟩
    have z0 : (0 : Int32).toNatClampNeg = 0 := by decide
    have z1 : (1 : Int32).toNatClampNeg = 1 := by decide
    rw [z0, z1]
    have ar : ∀ j, ¬ j = 10 → (sA (sA h 10 0 x) 10 1 y).1 j = h.1 j := fun j hj => by simp [sA, va_up, hj]
    have a10 : ∀ j, (sA (sA h 10 0 x) 10 1 y).1 10 j = if j = 1 then y else if j = 0 then x else h.1 10 j := fun j => by simp [sA, va_up, upd]
    have hI' : IM (sA (sA h 10 0 x) 10 1 y).1 P B := IM_ext hI (fun j hj => ar j (by omega))
    have hp' : PR g.1 (sA (sA h 10 0 x) 10 1 y).1 P := PR_ext hp (fun j hj => ar j (by omega))
    have hd' : DR g.1 (sA (sA h 10 0 x) 10 1 y).1 P := DR_ext hd (fun j hj => ar j (by omega))
    have eq : qL (sA (sA h 10 0 x) 10 1 y).1 P = qL h.1 P := qL_ext (fun j hj => ar j (by omega))
    refine ⟨P, B, hP, by omega, h0, ?_, h1, hI', hp', hd', ?_, ?_⟩
    · rw [sI_n _ _ (by decide), sI_n _ _ (by decide)]; exact g0
    · refine ⟨?_, ?_, ?_, ?_, ?_, ?_, ?_, ?_, ?_⟩
      · rw [sI_n _ _ (by decide), sI_n _ _ (by decide)]; exact n1
      · rw [sI_n _ _ (by decide), sI_n _ _ (by decide)]; exact n2
      · rw [sI_n _ _ (by decide), sI_n _ _ (by decide)]; exact n3
      · rw [sI_n _ _ (by decide), sI_s, a10]; rfl
      · rw [sI_s, a10]; rfl
      · rw [sI_n _ _ (by decide), sI_n _ _ (by decide)]; exact n6
      · rw [sI_n _ _ (by decide), sI_n _ _ (by decide)]; exact n7
      · rw [sI_n _ _ (by decide), sI_n _ _ (by decide)]; exact n8
      · rw [sI_n _ _ (by decide), sI_n _ _ (by decide)]; exact n9
    · rw [eq]
      exact ⟨by rw [sI_n _ _ (by decide), sI_n _ _ (by decide)]; exact hq.1, hq.2⟩
  unfold wp_E_expire
  refine pe_isWithin (fun a b => ⟨fun c => absurd c (by decide), fun _ => pe_isWithin (fun a2 b2 => ⟨fun c => absurd c (by decide), fun _ => fin 1 (fun c => absurd c (by decide)) (fun _ => ⟨a, b, a2, b2⟩)⟩) (fun a2 => ⟨fun _ => fin 0 (fun _ => Or.inr a2) (fun c => absurd rfl c), fun c => absurd rfl c⟩)⟩) (fun a => ⟨fun _ => fin 0 (fun _ => Or.inl a) (fun c => absurd rfl c), fun c => absurd rfl c⟩)
