-- the calls that look at requests and parts
theorem qL_l0 (A : Nat → Nat → Int32) (P : Nat) : ∃ l0, qL A P = [] ∨ (qL A P)[0]? = some l0 := by
  cases h : qL A P with
  | nil => exact ⟨0, Or.inl rfl⟩
  | cons x S => exact ⟨x, Or.inr rfl⟩
theorem Rel_13 {k : Nat} {g h : St} {U : Nat → Nat → Int32} {w : Nat → Int64} (hR : Rel k g h) (hU : ∀ j, ¬ j = 13 → U j = g.1 j) : Rel k (U, g.2.1, w) h := by
  obtain ⟨P, B, hP, hB, h0, g0, h1, hI, hp, hd, hn, hq⟩ := hR
  refine ⟨P, B, hP, hB, h0, g0, h1, hI, ?_, ?_, hn, ?_⟩
  · show PR U h.1 P
    unfold PR
    rw [hU 1 (by decide), hU 2 (by decide), hU 3 (by decide), hU 4 (by decide), hU 7 (by decide), hU 8 (by decide), hU 9 (by decide), hU 10 (by decide), hU 11 (by decide), hU 12 (by decide)]
    exact hp
  · show DR U h.1 P
    unfold DR
    rw [hU 0 (by decide), hU 5 (by decide), hU 6 (by decide)]
    exact hd
  · refine ⟨hq.1, hq.2.1, fun i r hi => ?_⟩
    show U 14 i = nI r ∧ r < 200
    rw [hU 14 (by decide)]
    exact hq.2.2 i r hi
theorem st_waiting {k : Nat} {g h : St} (hR : Rel k g h) (x : Int32) : wp_E_waiting g x (fun r u => wp_M_waiting h x (Ow k r u)) := by
  have hR0 := hR
  obtain ⟨P, B, hP, hB, h0, g0, h1, hI, hp, hd, hn, hq⟩ := hR
  unfold wp_E_waiting
  refine pe_isWithin (fun a b => ⟨fun _ => ?_, fun c => absurd c (by decide)⟩) (fun a => ⟨fun c => absurd rfl c, fun _ => ?_⟩)
  · refine ⟨(qL h.1 P).length + 1, pe_waiting_loop hq (qL h.1 P) 0 _ 0 rfl (by omega) (by omega) ?_⟩
    refine pm_waiting h0 hP (fun z => absurd z (fun z => z.elim a (fun y => y (Int32.not_lt.mp b)))) (fun _ _ => ⟨?_, Rel_mono hR0⟩)
    have e1 : (qL h.1 P).foldl (cw_E g.1 x) 0 = (qL h.1 P).foldl (ct (fun r => bb (wa_M h.1 r ∧ h.1 1 r = x))) 0 := by
      refine ct_congr (c1 := fun r => bb (g.1 7 r = x)) _ 0 (fun r hr => ?_)
      obtain ⟨hr1, hrw⟩ := qL_mem.mp hr
      refine bb_iff ?_
      rw [(hp.2 r hr1 hrw).1]
      exact ⟨fun z => ⟨hrw, z⟩, fun z => z.2⟩
    rw [e1]
    exact ct_filter (c := fun r => bb (wa_M h.1 r ∧ h.1 1 r = x)) _ 0 (fun r _ hf => bb_f.mpr (fun z => bb_f.mp hf z.1))
  · refine pm_waiting h0 hP (fun _ => ⟨rfl, Rel_mono hR0⟩) (fun c d => absurd d (Int32.not_le.mpr (a.resolve_left c)))
theorem ready_eq {A U : Nat → Nat → Int32} {G : Nat → Nat → Int32} {P : Nat} {w : Int32} (hp : PR G A P) (hU : ∀ k, ¬ k = 13 → U k = G k) (hr : ∀ r, r ∈ qL A P → (¬ U 13 r = 0 ↔ rd_M A P r)) : (qL A P).foldl (cr_E U w) 0 = (List.range' 0 P).foldl (cr_M A P w) 0 := by
  have e1 : (qL A P).foldl (cr_E U w) 0 = (qL A P).foldl (ct (fun r => bb (rd_M A P r ∧ A 1 r = w))) 0 := by
    refine ct_congr (c1 := fun r => bb (¬ U 13 r = 0 ∧ U 7 r = w)) _ 0 (fun r hm => ?_)
    obtain ⟨hr1, hrw⟩ := qL_mem.mp hm
    refine bb_iff ?_
    rw [hU 7 (by decide), (hp.2 r hr1 hrw).1, hr r hm]
  rw [e1]
  exact ct_filter (c := fun r => bb (rd_M A P r ∧ A 1 r = w)) _ 0 (fun r _ hf => bb_f.mpr (fun z => bb_f.mp hf z.1.1))
theorem st_ready {k : Nat} {g h : St} (hR : Rel k g h) (x : Int32) : wp_E_ready g x (fun r u => wp_M_ready h x (Ow k r u)) := by
  have hR0 := hR
  obtain ⟨P, B, hP, hB, h0, g0, h1, hI, hp, hd, hn, hq⟩ := hR
  have hrq := IM_req hI
  unfold wp_E_ready
  refine pe_isWithin (fun a b => ⟨fun _ => ?_, fun c => absurd c (by decide)⟩) (fun a => ⟨fun c => absurd rfl c, fun _ => ?_⟩)
  · obtain ⟨l0, hl⟩ := qL_l0 h.1 P
    refine pe_markReady (l0 := l0) g0 hP hq hl (fun p hpP => by rw [(hp.1 p hpP).2.2.2]; exact hrq p hpP) (fun U w hU hv => ?_)
    have hq' : qu_E (U, g.2.1, w) (qL h.1 P) := ⟨hq.1, hq.2.1, fun i r hi => by show U 14 i = nI r ∧ r < 200; rw [hU 14 (by decide)]; exact hq.2.2 i r hi⟩
    refine ⟨(qL h.1 P).length + 1, pe_ready_loop hq' (qL h.1 P) 0 _ 0 rfl (by omega) (by omega) ?_⟩
    refine pm_ready h0 hP hrq (fun z => absurd z (fun z => z.elim a (fun y => y (Int32.not_lt.mp b)))) (fun _ _ => ⟨?_, Rel_mono (Rel_13 hR0 hU)⟩)
    exact ready_eq hp hU (mk_ready hI hP hp hd hl hv)
  · refine pm_ready h0 hP hrq (fun _ => ⟨rfl, Rel_mono hR0⟩) (fun c d => absurd d (Int32.not_le.mpr (a.resolve_left c)))
-- a part that waits
theorem pe_isWaiting {g : St} {x : Int32} {P : Nat} {Q : Int32 → St → Prop} (g0 : g.2.1 0 = nI P) (hP : P ≤ 200) (hT : ∀ p, p < P → x = nI p → g.1 5 p = 0 → Q 1 g) (hF : ((x < 0 ∨ nI P ≤ x) ∨ ∃ p, p < P ∧ x = nI p ∧ ¬ g.1 5 p = 0) → Q 0 g) : wp_P_isWaiting g x Q := by
  unfold wp_P_isWaiting
  refine pe_has g0 hP (fun p hp e => ⟨fun c => absurd c (by decide), fun _ => ?_⟩) (fun a => ⟨fun _ => hF (Or.inl a), fun c => absurd rfl c⟩)
  subst e
  rw [nu_cl (by omega)]
  exact ⟨nu_in (by omega) (by omega), fun a => hF (Or.inr ⟨p, hp, rfl, a⟩), fun a => hT p hp rfl a⟩
theorem pm_requestOf_t {h : St} {P p : Nat} {Q : Int32 → St → Prop} (h0 : h.2.1 0 = nI P) (hP : P ≤ 200) (hp : p < P) (h6 : h.1 6 p = 1) (hq : Q (h.1 5 p) h) : wp_M_requestOf h (nI p) Q := by
  have hv : vp_in (nI p) 200 := nu_in (by omega) (by omega)
  unfold wp_M_requestOf
  refine pm_isPart_t h0 hP hp ⟨fun c => absurd c (by decide), fun _ => ?_⟩
  rw [nu_cl (by omega)]
  exact ⟨hv, fun c => absurd h6 c, fun _ => ⟨hv, hq⟩⟩
theorem pm_requestOf_f {h : St} {P : Nat} {x : Int32} {Q : Int32 → St → Prop} (h0 : h.2.1 0 = nI P) (hP : P ≤ 200) (hx : (x < 0 ∨ nI P ≤ x) ∨ ∃ p, p < P ∧ x = nI p ∧ ¬ h.1 6 p = 1) (hq : Q (-1) h) : wp_M_requestOf h x Q := by
  unfold wp_M_requestOf
  rcases hx with hx | ⟨p, hp, rfl, h6⟩
  · exact pm_isPart_f h0 hx ⟨fun _ => hq, fun c => absurd rfl c⟩
  · refine pm_isPart_t h0 hP hp ⟨fun c => absurd c (by decide), fun _ => ?_⟩
    rw [nu_cl (by omega)]
    exact ⟨nu_in (by omega) (by omega), fun _ => hq, fun c => absurd c h6⟩
theorem nowait {g h : St} {P : Nat} {x : Int32} (hd : DR g.1 h.1 P) (hx : (x < 0 ∨ nI P ≤ x) ∨ ∃ p, p < P ∧ x = nI p ∧ ¬ g.1 5 p = 0) : (x < 0 ∨ nI P ≤ x) ∨ ∃ p, p < P ∧ x = nI p ∧ ¬ h.1 6 p = 1 := by
  rcases hx with hx | ⟨p, hp, e, h5⟩
  · exact Or.inl hx
  · exact Or.inr ⟨p, hp, e, fun z => h5 ((hd.2.1 p hp).mpr z)⟩
theorem st_requestOf {k : Nat} {g h : St} (hR : Rel k g h) (x : Int32) : wp_E_requestOf g x (fun r u => wp_M_requestOf h x (Ow k r u)) := by
  have hR0 := hR
  obtain ⟨P, B, hP, hB, h0, g0, h1, hI, hp, hd, hn, hq⟩ := hR
  unfold wp_E_requestOf
  refine pe_isWaiting g0 hP (fun p hpP e h5 => ⟨fun c => absurd c (by decide), fun _ => ?_⟩) (fun a => ⟨fun _ => pm_requestOf_f h0 hP (nowait hd a) ⟨rfl, Rel_mono hR0⟩, fun c => absurd rfl c⟩)
  subst e
  rw [nu_cl (by omega)]
  exact ⟨nu_in (by omega) (by omega), pm_requestOf_t h0 hP hpP ((hd.2.1 p hpP).mp h5) ⟨(hp.1 p hpP).2.2.2, Rel_mono hR0⟩⟩
theorem st_about {k : Nat} {g h : St} (hR : Rel k g h) (x y : Int32) : wp_E_about g x y (fun r u => wp_M_about h x y (Ow k r u)) := by
  have hR0 := hR
  obtain ⟨P, B, hP, hB, h0, g0, h1, hI, hp, hd, hn, hq⟩ := hR
  unfold wp_E_about
  refine pe_isWaiting g0 hP (fun p hpP e h5 => ⟨fun _ => ?_, fun c => absurd c (by decide)⟩) (fun a => ⟨fun c => absurd rfl c, fun _ => ?_⟩)
  · subst e
    have h6 := (hd.2.1 p hpP).mp h5
    obtain ⟨_, _, _, z, hz1, hz2, hz3, hz4⟩ := hI.1 p hpP
    have hw : wa_M h.1 z := ⟨hz4.trans h6, hz3⟩
    obtain ⟨q7, q8, q9, q10, q11, q12⟩ := hp.2 z (by omega) hw
    have e4 : g.1 4 p = nI z := (hp.1 p hpP).2.2.2.trans hz2
    have hv : vp_in (nI p) 200 := nu_in (by omega) (by omega)
    have hvz : vp_in (nI z) 200 := nu_in (by omega) (by omega)
    rw [nu_cl (i := p) (by omega), e4, nu_cl (i := z) (by omega)]
    have pos : ¬ nI z < 0 := nu_neg (by omega)
    have ok : Ow k (-1) g (-1) h := ⟨rfl, Rel_mono hR0⟩
    -- the reference's branches, at a known request
    have mm : ∀ r : Int32, (y < 0 → Ow k r g (-1) h) → (¬ y ≤ 4 → Ow k r g (-1) h) → (y = 0 → Ow k r g (st_F h.1 (nI z) P) h) → (y = 1 → Ow k r g (ln_F h.1 (nI z) P) h) → (y = 2 → Ow k r g (h.1 8 z) h) → (y = 3 → Ow k r g (h.1 9 z) h) → (¬ y = 0 → ¬ y = 1 → ¬ y = 2 → ¬ y = 3 → ¬ y < 0 → y ≤ 4 → Ow k r g (h.1 1 z) h) → wp_M_about h (nI p) y (Ow k r g) := by
      intro r a1 a2 a3 a4 a5 a6 a7
      unfold wp_M_about
      refine pm_requestOf_t h0 hP hpP h6 ?_
      rw [hz2, nu_cl (i := z) (by omega)]
      refine ⟨fun c => absurd c pos, fun _ => ⟨a1, fun c0 => ⟨fun c1 => ⟨fun c2 => ⟨fun c3 => ⟨fun c4 => ⟨fun c5 => ⟨hvz, a7 c2 c3 c4 c5 c0 c1⟩, fun c5 => ⟨hvz, a6 c5⟩⟩, fun c4 => ⟨hvz, a5 c4⟩⟩, fun c3 => pm_length h0 hP (a4 c3)⟩, fun c2 => pm_start h0 hP (a3 c2)⟩, a2⟩⟩⟩
    refine ⟨hv, fun c => ?_, fun c => ⟨hvz, ?_⟩, fun c => ⟨hvz, ?_⟩, fun c => ⟨hvz, ?_⟩, fun c => ⟨hvz, ?_⟩, fun c => ⟨hvz, ?_⟩⟩
    · refine mm (-1) (fun _ => ok) (fun _ => ok) (fun d => ?_) (fun d => ?_) (fun d => ?_) (fun d => ?_) (fun d0 d1 d2 d3 d4 d5 => ?_)
      · subst d; exact absurd c (by decide)
      · subst d; exact absurd c (by decide)
      · subst d; exact absurd c (by decide)
      · subst d; exact absurd c (by decide)
      · exfalso
        rw [Int32.lt_iff_toInt_lt] at d4
        rw [Int32.le_iff_toInt_le] at d5
        have t0 : (0 : Int32).toInt = 0 := by decide
        have t4 : (4 : Int32).toInt = 4 := by decide
        omega
    all_goals subst c
    · exact mm _ (fun d => absurd d (by decide)) (fun d => absurd (by decide) d) (fun _ => ⟨q8, Rel_mono hR0⟩) (fun d => absurd d (by decide)) (fun d => absurd d (by decide)) (fun d => absurd d (by decide)) (fun d => absurd rfl d)
    · exact mm _ (fun d => absurd d (by decide)) (fun d => absurd (by decide) d) (fun d => absurd d (by decide)) (fun _ => ⟨q9, Rel_mono hR0⟩) (fun d => absurd d (by decide)) (fun d => absurd d (by decide)) (fun _ d => absurd rfl d)
    · exact mm _ (fun d => absurd d (by decide)) (fun d => absurd (by decide) d) (fun d => absurd d (by decide)) (fun d => absurd d (by decide)) (fun _ => ⟨q11, Rel_mono hR0⟩) (fun d => absurd d (by decide)) (fun _ _ d => absurd rfl d)
    · exact mm _ (fun d => absurd d (by decide)) (fun d => absurd (by decide) d) (fun d => absurd d (by decide)) (fun d => absurd d (by decide)) (fun d => absurd d (by decide)) (fun _ => ⟨q12, Rel_mono hR0⟩) (fun _ _ _ d => absurd rfl d)
    · exact mm _ (fun d => absurd d (by decide)) (fun d => absurd (by decide) d) (fun d => absurd d (by decide)) (fun d => absurd d (by decide)) (fun d => absurd d (by decide)) (fun d => absurd d (by decide)) (fun _ _ _ _ _ _ => ⟨q7, Rel_mono hR0⟩)
  · unfold wp_M_about
    exact pm_requestOf_f h0 hP (nowait hd a) ⟨fun _ => ⟨rfl, Rel_mono hR0⟩, fun c => absurd (by decide) c⟩
theorem pm_value_0 {h : St} {P p : Nat} {y : Int32} {Q : Int32 → St → Prop} (h0 : h.2.1 0 = nI P) (hP : P ≤ 200) (hp : p < P) (hz : ¬ h.1 1 p = 0 ∨ ¬ h.1 6 p = 2 ∨ y < 0 ∨ h.1 3 p ≤ y) (hq : Q 0 h) : wp_M_value h (nI p) y Q := by
  have hv : vp_in (nI p) 200 := nu_in (by omega) (by omega)
  unfold wp_M_value
  refine pm_isPart_t h0 hP hp ⟨fun _ => hq, fun _ => ?_⟩
  rw [nu_cl (by omega)]
  refine ⟨hv, fun _ => hq, fun a => ⟨hv, fun _ => hq, fun b => ⟨fun _ => hq, fun c => ⟨hv, fun _ => hq, fun d => ?_⟩⟩⟩⟩
  exact absurd hz (fun z => z.elim (fun z => z a) (fun z => z.elim (fun z => z b) (fun z => z.elim c d)))
theorem pm_value_1 {h : St} {P p n i : Nat} {Q : Int32 → St → Prop} (h0 : h.2.1 0 = nI P) (hP : P ≤ 200) (hp : p < P) (h1 : h.1 1 p = 0) (h6 : h.1 6 p = 2) (h3 : h.1 3 p = nI n) (hn : n ≤ 8) (hi : i < n) (hq : Q (h.1 7 (8 * p + i)) h) : wp_M_value h (nI p) (nI i) Q := by
  have hv : vp_in (nI p) 200 := nu_in (by omega) (by omega)
  have e : (8 * nI p) + nI i = nI (8 * p + i) := by rw [← nI_add, ← pk_mul]; rfl
  unfold wp_M_value
  refine pm_isPart_t h0 hP hp ⟨fun c => absurd c (by decide), fun _ => ?_⟩
  rw [e, nu_cl (i := p) (by omega), nu_cl (i := 8 * p + i) (by omega), h3]
  exact ⟨hv, fun c => absurd h1 c, fun _ => ⟨hv, fun c => absurd h6 c, fun _ => ⟨fun c => absurd c (nu_neg (by omega)), fun _ => ⟨hv, fun c => absurd ((nu_le (by omega) (by omega)).mp c) (by omega), fun _ => ⟨nu_in (by omega) (by omega), hq⟩⟩⟩⟩⟩
theorem st_value {k : Nat} {g h : St} (hR : Rel k g h) (x y : Int32) : wp_E_value g x y (fun r u => wp_M_value h x y (Ow k r u)) := by
  have hR0 := hR
  obtain ⟨P, B, hP, hB, h0, g0, h1, hI, hp, hd, hn, hq⟩ := hR
  have ok : Ow k 0 g 0 h := ⟨rfl, Rel_mono hR0⟩
  unfold wp_E_value
  refine pe_has g0 hP (fun p hpP e => ⟨fun c => absurd c (by decide), fun _ => ?_⟩) (fun a => ⟨fun _ => ?_, fun c => absurd rfl c⟩)
  · subst e
    have hv : vp_in (nI p) 200 := nu_in (by omega) (by omega)
    obtain ⟨_, hs6, ⟨s, n, e2, e3, e4, e5, e6⟩, _⟩ := hI.1 p hpP
    obtain ⟨c1, c2, c3, _⟩ := hp.1 p hpP
    rw [nu_cl (i := p) (by omega), c1, c3, e3]
    refine ⟨hv, fun a => pm_value_0 h0 hP hpP (Or.inr (Or.inl (fun z => ?_))) ok, fun a => ⟨hv, fun b => ⟨fun c => pm_value_0 h0 hP hpP (Or.inr (Or.inr (Or.inl c))) ok, fun c => ⟨hv, fun d => ?_, fun d => pm_value_0 h0 hP hpP (Or.inr (Or.inr (Or.inr (by rw [e3]; exact Int32.not_lt.mp d)))) ok⟩⟩, fun b => pm_value_0 h0 hP hpP (Or.inl b) ok⟩⟩
    · have := (hd.2.1 p hpP).mp a
      rw [this] at z
      exact absurd z (by decide)
    · have h6 : ¬ h.1 6 p = 1 := fun z => a ((hd.2.1 p hpP).mpr z)
      rcases pk_ix y (n := n) (by omega) with z | z | ⟨i, hi, rfl⟩
      · exact absurd z c
      · exact absurd z (Int32.not_le.mpr d)
      · have e : (nI p * 8) + nI i = nI (8 * p + i) := by rw [← nI_add, Nat.mul_comm, ← pk_mul]; rfl
        rw [e, nu_cl (i := 8 * p + i) (by omega)]
        refine ⟨nu_in (by omega) (by omega), pm_value_1 h0 hP hpP b (hs6.resolve_left h6) e3 e5 hi ⟨?_, Rel_mono hR0⟩⟩
        exact (hd.2.2.1 p n i hpP e3 e5 hi).2 h6 b
  · unfold wp_M_value
    exact pm_isPart_f h0 a ⟨fun _ => ok, fun c => absurd rfl c⟩
