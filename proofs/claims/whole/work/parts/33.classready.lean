-- markReady: least group, then the claims of the waiting parts in their order
theorem pe_conflictWith {g : St} {w : Int32} {m : Int64} {Q : Int32 → St → Prop} (hT : ¬ ((if w = 1 then g.2.2 0 ||| g.2.2 1 else g.2.2 1) &&& m) = 0 → Q 1 g) (hF : ((if w = 1 then g.2.2 0 ||| g.2.2 1 else g.2.2 1) &&& m) = 0 → Q 0 g) : wp_C_conflictWith g w m Q := by
  have hb : ∀ z : Int64, (¬ (z &&& m) = 0 → Q 1 g) → ((z &&& m) = 0 → Q 0 g) → wb_C_conflictWith_21 Q g m z := by
    intro z h1 h2
    unfold wb_C_conflictWith_21
    exact ⟨fun h3 => h2 ((lg_cmp0 _).mp h3), fun h3 => h1 (fun h4 => h3 ((lg_cmp0 _).mpr h4))⟩
  unfold wp_C_conflictWith
  refine ⟨fun h1 => hb _ ?_ ?_, fun h1 => hb _ ?_ ?_⟩
  · rw [if_neg h1] at hT; exact hT
  · rw [if_neg h1] at hF; exact hF
  · rw [if_pos h1] at hT; exact hT
  · rw [if_pos h1] at hF; exact hF
def mq (G : Nat → Nat → Int32) (q : Nat) : Int64 := mk_ (G 2 q) (G 3 q)
/-- the claims hold the sectors of the waiting parts before i -/
def cm_E (G : Nat → Nat → Int32) (w : Nat → Int64) (i : Nat) : Prop := ∀ x : Nat, x < 64 → ((bt (w 1) x = true ↔ ∃ q, q < i ∧ G 5 q = 0 ∧ G 1 q = 1 ∧ bt (mq G q) x = true) ∧ (bt (w 0) x = true ↔ ∃ q, q < i ∧ G 5 q = 0 ∧ ¬ G 1 q = 1 ∧ bt (mq G q) x = true))
theorem cm_start (g : St) (w : Nat → Int64) : cm_E g.1 (va_up (va_up w 0 0) 1 0) 0 := by
  intro x _
  have h1 : va_up (va_up w 0 0) 1 0 1 = 0 := by simp [va_up]
  have h0 : va_up (va_up w 0 0) 1 0 0 = 0 := by simp [va_up]
  rw [h1, h0, bt_0]
  exact ⟨⟨fun h => (by cases h), fun ⟨q, hq, _⟩ => absurd hq (Nat.not_lt_zero _)⟩, ⟨fun h => (by cases h), fun ⟨q, hq, _⟩ => absurd hq (Nat.not_lt_zero _)⟩⟩
theorem cm_skip {g : St} {w : Nat → Int64} {i : Nat} (h : cm_E g.1 w i) (hd : ¬ g.1 5 i = 0) : cm_E g.1 w (i + 1) := by
  intro x hx
  obtain ⟨h1, h0⟩ := h x hx
  refine ⟨h1.trans ⟨fun ⟨q, a, b⟩ => ⟨q, by omega, b⟩, fun ⟨q, a, b⟩ => ⟨q, ?_, b⟩⟩, h0.trans ⟨fun ⟨q, a, b⟩ => ⟨q, by omega, b⟩, fun ⟨q, a, b⟩ => ⟨q, ?_, b⟩⟩⟩
  · rcases Nat.lt_succ_iff_lt_or_eq.mp a with h | h
    · exact h
    · subst h; exact absurd b.1 hd
  · rcases Nat.lt_succ_iff_lt_or_eq.mp a with h | h
    · exact h
    · subst h; exact absurd b.1 hd
theorem cm_addW {g : St} {w : Nat → Int64} {i : Nat} (h : cm_E g.1 w i) (hd : g.1 5 i = 0) (hw : g.1 1 i = 1) : cm_E g.1 (va_up w 1 (w 1 ||| mq g.1 i)) (i + 1) := by
  intro x hx
  obtain ⟨h1, h0⟩ := h x hx
  have e1 : va_up w 1 (w 1 ||| mq g.1 i) 1 = w 1 ||| mq g.1 i := by simp [va_up]
  have e0 : va_up w 1 (w 1 ||| mq g.1 i) 0 = w 0 := by simp [va_up]
  rw [e1, e0, bt_or, Bool.or_eq_true, h1, h0]
  refine ⟨⟨fun h => ?_, fun ⟨q, a, b⟩ => ?_⟩, ⟨fun ⟨q, a, b⟩ => ⟨q, by omega, b⟩, fun ⟨q, a, b⟩ => ⟨q, ?_, b⟩⟩⟩
  · rcases h with ⟨q, a, b⟩ | h
    · exact ⟨q, by omega, b⟩
    · exact ⟨i, by omega, hd, hw, h⟩
  · rcases Nat.lt_succ_iff_lt_or_eq.mp a with h | h
    · exact Or.inl ⟨q, h, b⟩
    · subst h; exact Or.inr b.2.2
  · rcases Nat.lt_succ_iff_lt_or_eq.mp a with h | h
    · exact h
    · subst h; exact absurd hw b.2.1
theorem cm_addR {g : St} {w : Nat → Int64} {i : Nat} (h : cm_E g.1 w i) (hd : g.1 5 i = 0) (hw : ¬ g.1 1 i = 1) : cm_E g.1 (va_up w 0 (w 0 ||| mq g.1 i)) (i + 1) := by
  intro x hx
  obtain ⟨h1, h0⟩ := h x hx
  have e1 : va_up w 0 (w 0 ||| mq g.1 i) 1 = w 1 := by simp [va_up]
  have e0 : va_up w 0 (w 0 ||| mq g.1 i) 0 = w 0 ||| mq g.1 i := by simp [va_up]
  rw [e1, e0, bt_or, Bool.or_eq_true, h1, h0]
  refine ⟨⟨fun ⟨q, a, b⟩ => ⟨q, by omega, b⟩, fun ⟨q, a, b⟩ => ⟨q, ?_, b⟩⟩, ⟨fun h => ?_, fun ⟨q, a, b⟩ => ?_⟩⟩
  · rcases Nat.lt_succ_iff_lt_or_eq.mp a with h | h
    · exact h
    · subst h; exact absurd b.2.1 hw
  · rcases h with ⟨q, a, b⟩ | h
    · exact ⟨q, by omega, b⟩
    · exact ⟨i, by omega, hd, hw, h⟩
  · rcases Nat.lt_succ_iff_lt_or_eq.mp a with h | h
    · exact Or.inl ⟨q, h, b⟩
    · subst h; exact Or.inr b.2.2
/-- a conflict with what is claimed is a conflict with one of the parts -/
theorem cm_conf {g : St} {w : Nat → Int64} {i : Nat} {wy : Int32} {m : Int64} (h : cm_E g.1 w i) : (¬ ((if wy = 1 then w 0 ||| w 1 else w 1) &&& m) = 0) ↔ ∃ q, q < i ∧ g.1 5 q = 0 ∧ (wy = 1 ∨ g.1 1 q = 1) ∧ ∃ x, x < 64 ∧ bt m x = true ∧ bt (mq g.1 q) x = true := by
  rw [bt_ne]
  constructor
  · intro ⟨x, hx, hb⟩
    obtain ⟨h1, h0⟩ := h x hx
    rw [bt_and, Bool.and_eq_true] at hb
    by_cases hw : wy = 1
    · rw [if_pos hw, bt_or, Bool.or_eq_true, h0, h1] at hb
      rcases hb.1 with ⟨q, a, b, _, d⟩ | ⟨q, a, b, _, d⟩
      · exact ⟨q, a, b, Or.inl hw, x, hx, hb.2, d⟩
      · exact ⟨q, a, b, Or.inl hw, x, hx, hb.2, d⟩
    · rw [if_neg hw, h1] at hb
      obtain ⟨q, a, b, c, d⟩ := hb.1
      exact ⟨q, a, b, Or.inr c, x, hx, hb.2, d⟩
  · intro ⟨q, a, b, c, x, hx, d, e⟩
    obtain ⟨h1, h0⟩ := h x hx
    refine ⟨x, hx, ?_⟩
    rw [bt_and, Bool.and_eq_true]
    refine ⟨?_, d⟩
    by_cases hw : wy = 1
    · rw [if_pos hw, bt_or, Bool.or_eq_true, h0, h1]
      by_cases hq : g.1 1 q = 1
      · exact Or.inr ⟨q, a, b, hq, e⟩
      · exact Or.inl ⟨q, a, b, hq, e⟩
    · rw [if_neg hw, h1]
      exact ⟨q, a, b, c.resolve_left hw, e⟩
theorem pe_claim_loop {g : St} {P : Nat} {Q : St → Prop} (hP : g.2.1 0 = nI P) (hPl : P ≤ 200) (hq : ∀ w, cm_E g.1 w P → Q (g.1, g.2.1, w)) : ∀ (d i n : Nat) (w : Nat → Int64), i + d = P → d < n → cm_E g.1 w i → wl_E_claimAllWaiting_9 Q n (g.1, g.2.1, w) (nI i) := by
  intro d
  induction d with
  | zero =>
    intro i n w hi hn hc
    obtain ⟨n, rfl⟩ : ∃ m, n = m + 1 := ⟨n - 1, by omega⟩
    have e : i = P := by omega
    subst e
    rw [wl_E_claimAllWaiting_9]
    dsimp only
    rw [hP]
    exact ⟨fun _ => hq w hc, fun h => absurd ((nu_le (by omega) (by omega)).mpr (by omega)) h⟩
  | succ d ih =>
    intro i n w hi hn hc
    obtain ⟨n, rfl⟩ : ∃ m, n = m + 1 := ⟨n - 1, by omega⟩
    have hcc : ¬ nI P ≤ nI i := fun h => by have := (nu_le (by omega) (by omega)).mp h; omega
    have hv : vp_in (nI i) 200 := nu_in (by omega) (by omega)
    have nx : ∀ w', cm_E g.1 w' (i + 1) → wl_E_claimAllWaiting_9 Q n (g.1, g.2.1, w') (nI i + 1) := by
      intro w' h
      rw [nI_1]
      exact ih (i + 1) n w' (by omega) (by omega) h
    rw [wl_E_claimAllWaiting_9]
    dsimp only
    rw [hP, nu_cl (by omega)]
    refine ⟨fun h => absurd h hcc, fun _ => ⟨hv, fun h => nx w (cm_skip hc h), fun h => ⟨hv, pe_sectors (by omega) ?_⟩⟩⟩
    unfold wp_C_add
    exact ⟨fun h2 => nx _ (cm_addR hc h h2), fun h2 => nx _ (cm_addW hc h h2)⟩
theorem pe_claimAllWaiting {g : St} {P : Nat} {Q : St → Prop} (hP : g.2.1 0 = nI P) (hPl : P ≤ 200) (hq : ∀ w, cm_E g.1 w P → Q (g.1, g.2.1, w)) : wp_E_claimAllWaiting g Q := by
  unfold wp_E_claimAllWaiting wp_C_clear
  exact ⟨P + 1, pe_claim_loop hP hPl hq P 0 (P + 1) _ (by omega) (by omega) (cm_start g g.2.2)⟩
-- the least group first
noncomputable def vl_E (G : Nat → Nat → Int32) (l0 r : Nat) : Int32 := if bb (G 12 r = G 12 l0) then 1 else 0
theorem pe_least_loop {g : St} {L : List Nat} {l0 : Nat} {w : Nat → Int64} {Q : St → Prop} (hL : qu_E g L) (h0 : L[0]? = some l0) (hq : ∀ A : Nat → Nat → Int32, (∀ k, ¬ k = 13 → A k = g.1 k) → (∀ r, r ∈ L → A 13 r = vl_E g.1 l0 r) → Q (A, g.2.1, w)) : ∀ (S : List Nat) (i n : Nat) (A : Nat → Nat → Int32), L.drop i = S → i ≤ L.length → S.length < n → (∀ k, ¬ k = 13 → A k = g.1 k) → (∀ j r, j < i → L[j]? = some r → A 13 r = vl_E g.1 l0 r) → wl_R_markLeastGroup_2 Q n (A, g.2.1, w) (nI i) := by
  obtain ⟨hc0, hl24, hat⟩ := hL
  have z0 : (0 : Int32).toNatClampNeg = 0 := by decide
  intro S
  induction S with
  | nil =>
    intro i n A hS hi hn hA hv
    obtain ⟨n, rfl⟩ : ∃ m, n = m + 1 := ⟨n - 1, by simp at hn; omega⟩
    have h1 := dr_nil hS
    rw [wl_R_markLeastGroup_2]
    dsimp only
    rw [hc0]
    refine ⟨fun _ => hq A hA (fun r hr => ?_), fun hc => absurd ((nu_le (by omega) (by omega)).mpr (by omega)) hc⟩
    obtain ⟨j, hj⟩ := List.getElem?_of_mem hr
    exact hv j r (by have := (List.getElem?_eq_some_iff.mp hj).1; omega) hj
  | cons r S ih =>
    intro i n A hS hi hn hA hv
    obtain ⟨n, rfl⟩ : ∃ m, n = m + 1 := ⟨n - 1, by simp at hn; omega⟩
    obtain ⟨h1, h2, h3⟩ := dr_cons hS
    obtain ⟨hr, hr2⟩ := hat i r h1
    obtain ⟨hl, hl2⟩ := hat 0 l0 h0
    have hn' : S.length < n := by simp at hn; omega
    have hc : ¬ nI L.length ≤ nI i := fun h => by have := (nu_le (by omega) (by omega)).mp h; omega
    have hvi : vp_in (nI i) 24 := nu_in (by omega) (by omega)
    have hvr : vp_in (nI r) 200 := nu_in hr2 (by omega)
    have hvl : vp_in (nI l0) 200 := nu_in hl2 (by omega)
    have hv0 : vp_in 0 24 := vp_in_nI (n := 0) (by decide) (by decide)
    have e14 : A 14 = g.1 14 := hA 14 (by decide)
    have e12 : A 12 = g.1 12 := hA 12 (by decide)
    have nx : ∀ x : Int32, x = vl_E g.1 l0 r → wl_R_markLeastGroup_2 Q n (sA (A, g.2.1, w) 13 r x) (nI i + 1) := by
      intro x hx
      rw [nI_1]
      refine ih (i + 1) n (va_up A 13 (upd (A 13) r x)) h2 (by omega) hn' (fun k hk => by simp [va_up, hk, hA k hk]) (fun j q hj hq => ?_)
      have e : va_up A 13 (upd (A 13) r x) 13 q = if q = r then x else A 13 q := by simp [va_up, upd]
      rw [e]
      by_cases hqr : q = r
      · rw [if_pos hqr, hx, hqr]
      · rw [if_neg hqr]
        rcases Nat.lt_succ_iff_lt_or_eq.mp hj with h | h
        · exact hv j q h hq
        · subst h
          exact absurd (Option.some.inj (hq.symm.trans h1)) hqr
    rw [wl_R_markLeastGroup_2]
    dsimp only
    rw [hc0, e14, e12, z0, nu_cl (i := i) (by omega), hr, hl, nu_cl (i := r) (by omega), nu_cl (i := l0) (by omega)]
    refine ⟨fun h => absurd h hc, fun _ => ⟨hvi, hvi, hvr, hv0, hvl, fun h => ⟨hvr, nx _ ?_⟩, fun h => ⟨hvr, nx _ ?_⟩⟩⟩
    · rw [nb_0]; unfold vl_E; rw [if_neg (fun z => h (bb_t.mp z))]
    · rw [nb_1]; unfold vl_E; rw [if_pos (bb_t.mpr h)]
theorem pe_least {g : St} {L : List Nat} {l0 : Nat} {Q : St → Prop} (hL : qu_E g L) (h0 : L = [] ∨ L[0]? = some l0) (hq : ∀ A : Nat → Nat → Int32, (∀ k, ¬ k = 13 → A k = g.1 k) → (∀ r, r ∈ L → A 13 r = vl_E g.1 l0 r) → Q (A, g.2.1, g.2.2)) : wp_R_markLeastGroup g Q := by
  rcases h0 with h0 | h0
  · refine ⟨1, ?_⟩
    subst h0
    rw [wl_R_markLeastGroup_2, hL.1]
    exact ⟨fun _ => hq g.1 (fun _ _ => rfl) (fun r hr => by cases hr), fun hc => absurd ((nu_le (a := 0) (b := 0) (by omega) (by omega)).mpr (by omega)) hc⟩
  · exact ⟨L.length + 1, pe_least_loop hL h0 hq L 0 (L.length + 1) g.1 rfl (by omega) (by omega) (fun _ _ => rfl) (fun j r hj => absurd hj (Nat.not_lt_zero _))⟩
-- then the conflicts
def ce_E (G : Nat → Nat → Int32) (p q : Nat) : Prop := (G 1 p = 1 ∨ G 1 q = 1) ∧ ∃ x, x < 64 ∧ bt (mq G p) x = true ∧ bt (mq G q) x = true
def oe_E (G : Nat → Nat → Int32) (l0 r i : Nat) : Prop := G 12 r = G 12 l0 ∧ ∀ p, p < i → G 5 p = 0 → G 4 p = nI r → ∀ q, q < p → G 5 q = 0 → ¬ ce_E G p q
def iv_E (G : Nat → Nat → Int32) (l0 : Nat) (A : Nat → Nat → Int32) (r i : Nat) : Prop := (A 13 r = 1 ∧ oe_E G l0 r i) ∨ (A 13 r = 0 ∧ ¬ oe_E G l0 r i)
theorem pe_mark_loop {g : St} {P l0 : Nat} {L : List Nat} {Q : St → Prop} (hP : g.2.1 0 = nI P) (hPl : P ≤ 200) (hLb : ∀ r, r ∈ L → r < 200) (hrq : ∀ p, p < P → ∃ z, z ≤ p ∧ g.1 4 p = nI z) (hq : ∀ A w, (∀ k, ¬ k = 13 → A k = g.1 k) → (∀ r, r ∈ L → iv_E g.1 l0 A r P) → Q (A, g.2.1, w)) : ∀ (d i n : Nat) (A : Nat → Nat → Int32) (w : Nat → Int64), i + d = P → d < n → (∀ k, ¬ k = 13 → A k = g.1 k) → cm_E g.1 w i → (∀ r, r ∈ L → iv_E g.1 l0 A r i) → wl_E_markReady_16 Q n (A, g.2.1, w) (nI i) := by
  intro d
  induction d with
  | zero =>
    intro i n A w hi hn hA hc hv
    obtain ⟨n, rfl⟩ : ∃ m, n = m + 1 := ⟨n - 1, by omega⟩
    have e : i = P := by omega
    subst e
    rw [wl_E_markReady_16]
    dsimp only
    rw [hP]
    exact ⟨fun _ => hq A w hA hv, fun h => absurd ((nu_le (by omega) (by omega)).mpr (by omega)) h⟩
  | succ d ih =>
    intro i n A w hi hn hA hc hv
    obtain ⟨n, rfl⟩ : ∃ m, n = m + 1 := ⟨n - 1, by omega⟩
    have hcc : ¬ nI P ≤ nI i := fun h => by have := (nu_le (by omega) (by omega)).mp h; omega
    have hvi : vp_in (nI i) 200 := nu_in (by omega) (by omega)
    have e5 : A 5 = g.1 5 := hA 5 (by decide)
    have e4 : A 4 = g.1 4 := hA 4 (by decide)
    have e3 : A 3 = g.1 3 := hA 3 (by decide)
    have e2 : A 2 = g.1 2 := hA 2 (by decide)
    have e1 : A 1 = g.1 1 := hA 1 (by decide)
    obtain ⟨z, hz, ez⟩ := hrq i (by omega)
    have nx : ∀ A' w', (∀ k, ¬ k = 13 → A' k = g.1 k) → cm_E g.1 w' (i + 1) → (∀ r, r ∈ L → iv_E g.1 l0 A' r (i + 1)) → wl_E_markReady_16 Q n (A', g.2.1, w') (nI i + 1) := by
      intro A' w' a b c
      rw [nI_1]
      exact ih (i + 1) n A' w' (by omega) (by omega) a b c
    -- one more part: what 'oe_E' says of it
    have more : ∀ r, oe_E g.1 l0 r (i + 1) ↔ oe_E g.1 l0 r i ∧ (g.1 5 i = 0 → g.1 4 i = nI r → ∀ q, q < i → g.1 5 q = 0 → ¬ ce_E g.1 i q) := by
      intro r
      refine ⟨fun h => ⟨⟨h.1, fun p hp => h.2 p (by omega)⟩, h.2 i (by omega)⟩, fun h => ⟨h.1.1, fun p hp => ?_⟩⟩
      rcases Nat.lt_succ_iff_lt_or_eq.mp hp with h1 | h1
      · exact h.1.2 p h1
      · subst h1; exact h.2
    have same : ∀ r, (g.1 5 i = 0 → g.1 4 i = nI r → ∀ q, q < i → g.1 5 q = 0 → ¬ ce_E g.1 i q) → iv_E g.1 l0 A r i → iv_E g.1 l0 A r (i + 1) := by
      intro r h h1
      rcases h1 with ⟨a, b⟩ | ⟨a, b⟩
      · exact Or.inl ⟨a, (more r).mpr ⟨b, h⟩⟩
      · exact Or.inr ⟨a, fun c => b ((more r).mp c).1⟩
    have add : ∀ A' , (∀ k, ¬ k = 13 → A' k = g.1 k) → (g.1 5 i = 0) → (∀ r, r ∈ L → iv_E g.1 l0 A' r (i + 1)) → wb_E_markReady_86 (wl_E_markReady_16 Q n) Q (A', g.2.1, w) (nI i) (mq g.1 i) := by
      intro A' hA' hd hv'
      unfold wb_E_markReady_86 wp_C_add
      dsimp only
      rw [nu_cl (by omega), hA' 1 (by decide)]
      exact ⟨hvi, fun h2 => nx A' _ hA' (cm_addR hc hd h2) hv', fun h2 => nx A' _ hA' (cm_addW hc hd h2) hv'⟩
    rw [wl_E_markReady_16]
    dsimp only
    rw [hP, nu_cl (by omega), e5]
    refine ⟨fun h => absurd h hcc, fun _ => ⟨hvi, fun h => nx A w hA (cm_skip hc h) (fun r hr => same r (fun h1 => absurd h1 h) (hv r hr)), fun h => pe_sectors (by omega) ?_⟩⟩
    dsimp only
    have em : mk_ (A 2 i) (A 3 i) = mq g.1 i := by rw [e2, e3]; rfl
    rw [em, e1]
    refine ⟨hvi, pe_conflictWith (fun h1 => ?_) (fun h1 => ?_)⟩
    · have h2 := (cm_conf (wy := g.1 1 i) (m := mq g.1 i) hc).mp h1
      refine ⟨fun h3 => absurd h3 (by decide), fun _ => ?_⟩
      dsimp only
      rw [e4, ez, nu_cl (i := z) (by omega), nb_0]
      refine ⟨hvi, nu_in (by omega) (by omega), ?_⟩
      refine add (va_up A 13 (upd (A 13) z 0)) (fun k hk => by simp [va_up, hk, hA k hk]) h (fun r hr => ?_)
      have e : va_up A 13 (upd (A 13) z 0) 13 r = if r = z then 0 else A 13 r := by simp [va_up, upd]
      by_cases hrz : r = z
      · refine Or.inr ⟨by rw [e, if_pos hrz], fun h3 => ?_⟩
        obtain ⟨q, a, b, c, x, hx, d1, d2⟩ := h2
        exact ((more r).mp h3).2 h (by rw [ez, hrz]) q a b ⟨c, x, hx, d1, d2⟩
      · have h4 := same r (fun _ h5 => absurd ((nu_eq (by omega) (by have := hLb r hr; omega)).mp (ez.symm.trans h5)) (fun h6 => hrz h6.symm)) (hv r hr)
        rcases h4 with ⟨a, b⟩ | ⟨a, b⟩
        · exact Or.inl ⟨by rw [e, if_neg hrz]; exact a, b⟩
        · exact Or.inr ⟨by rw [e, if_neg hrz]; exact a, b⟩
    · have h2 : ∀ q, q < i → g.1 5 q = 0 → ¬ ce_E g.1 i q := by
        intro q a b c
        obtain ⟨c1, x, hx, d1, d2⟩ := c
        exact ((cm_conf (wy := g.1 1 i) (m := mq g.1 i) hc).mpr ⟨q, a, b, c1, x, hx, d1, d2⟩) h1
      exact ⟨fun _ => add A hA h (fun r hr => same r (fun _ _ => h2) (hv r hr)), fun h3 => absurd rfl h3⟩
theorem pe_markReady {g : St} {P l0 : Nat} {L : List Nat} {Q : St → Prop} (hP : g.2.1 0 = nI P) (hPl : P ≤ 200) (hL : qu_E g L) (h0 : L = [] ∨ L[0]? = some l0) (hrq : ∀ p, p < P → ∃ z, z ≤ p ∧ g.1 4 p = nI z) (hq : ∀ A w, (∀ k, ¬ k = 13 → A k = g.1 k) → (∀ r, r ∈ L → iv_E g.1 l0 A r P) → Q (A, g.2.1, w)) : wp_E_markReady g Q := by
  have hLb : ∀ r, r ∈ L → r < 200 := by
    intro r hr
    obtain ⟨i, hi⟩ := List.getElem?_of_mem hr
    exact (hL.2.2 i r hi).2
  unfold wp_E_markReady
  refine pe_least hL h0 (fun A hA hv => ?_)
  unfold wp_C_clear
  refine ⟨P + 1, pe_mark_loop hP hPl hLb hrq hq P 0 (P + 1) A _ (by omega) (by omega) hA (cm_start g g.2.2) (fun r hr => ?_)⟩
  have e := hv r hr
  unfold vl_E at e
  by_cases hg : g.1 12 r = g.1 12 l0
  · rw [if_pos (bb_t.mpr hg)] at e
    exact Or.inl ⟨e, hg, fun p hp => absurd hp (Nat.not_lt_zero _)⟩
  · rw [if_neg (fun z => hg (bb_t.mp z))] at e
    exact Or.inr ⟨e, fun z => hg z.1⟩
