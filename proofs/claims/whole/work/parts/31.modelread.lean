-- the reference: what its reading methods answer, over the numbers that it holds
def wa_M (A : Nat → Nat → Int32) (r : Nat) : Prop := A 6 r = 1 ∧ A 5 r = nI r
theorem pm_waits {h : St} {r : Nat} {Q : Int32 → St → Prop} (hr : r < 200) (hT : wa_M h.1 r → Q 1 h) (hF : ¬ wa_M h.1 r → Q 0 h) : wp_M_waits h (nI r) Q := by
  unfold wp_M_waits
  rw [nu_cl (by omega)]
  have hv : vp_in (nI r) 200 := nu_in hr (by omega)
  exact ⟨hv, fun h1 => hF (fun h => h1 h.1), fun h1 => ⟨hv, fun h2 => hF (fun h => h2 h.2), fun h2 => hT ⟨h1, h2⟩⟩⟩
-- start, length, members: folds over the parts
def st_S (A : Nat → Nat → Int32) (r : Int32) (b : Int32) (p : Nat) : Int32 := if A 5 p = r then (if b ≤ A 2 p then b else A 2 p) else b
def st_F (A : Nat → Nat → Int32) (r : Int32) (n : Nat) : Int32 := (List.range' 0 n).foldl (st_S A r) 64
def ln_S (A : Nat → Nat → Int32) (r : Int32) (b : Int32) (p : Nat) : Int32 := if A 5 p = r then b + A 3 p else b
def ln_F (A : Nat → Nat → Int32) (r : Int32) (n : Nat) : Int32 := (List.range' 0 n).foldl (ln_S A r) 0
def mb_S (A : Nat → Nat → Int32) (r : Int32) (b : Int32) (p : Nat) : Int32 := if A 5 p = r then b + 1 else b
def mb_F (A : Nat → Nat → Int32) (r : Int32) (n : Nat) : Int32 := (List.range' 0 n).foldl (mb_S A r) 0
theorem pm_start_loop {h : St} {P : Nat} {r : Int32} {Q : Int32 → St → Prop} (hP : h.2.1 0 = nI P) (hPl : P ≤ 200) : ∀ (d i n : Nat) (b : Int32), i + d = P → d < n → Q ((List.range' i d).foldl (st_S h.1 r) b) h → wl_M_start_5 Q n h r b (nI i) := by
  intro d
  induction d with
  | zero =>
    intro i n b hi hn hq
    obtain ⟨n, rfl⟩ : ∃ m, n = m + 1 := ⟨n - 1, by omega⟩
    rw [wl_M_start_5, hP]
    exact ⟨fun _ => hq, fun hc => absurd ((nu_le (by omega) (by omega)).mpr (by omega)) hc⟩
  | succ d ih =>
    intro i n b hi hn hq
    obtain ⟨n, rfl⟩ : ∃ m, n = m + 1 := ⟨n - 1, by omega⟩
    have hc : ¬ nI P ≤ nI i := fun h => by have := (nu_le (by omega) (by omega)).mp h; omega
    have hv : vp_in (nI i) 200 := nu_in (by omega) (by omega)
    have hq : Q ((List.range' (i + 1) d).foldl (st_S h.1 r) (st_S h.1 r b i)) h := hq
    have nx : ∀ b', st_S h.1 r b i = b' → wl_M_start_5 Q n h r b' (nI i + 1) := by
      intro b' e
      rw [nI_1]
      exact ih (i + 1) n b' (by omega) (by omega) (e ▸ hq)
    rw [wl_M_start_5, hP, nu_cl (by omega)]
    exact ⟨fun h1 => absurd h1 hc, fun _ => ⟨hv, fun h1 => nx _ (by simp [st_S, h1]), fun h1 => ⟨hv, fun h2 => nx _ (by simp [st_S, h1, h2]), fun h2 => ⟨hv, nx _ (by simp [st_S, h1, h2])⟩⟩⟩⟩
theorem pm_start {h : St} {P : Nat} {r : Int32} {Q : Int32 → St → Prop} (hP : h.2.1 0 = nI P) (hPl : P ≤ 200) (hq : Q (st_F h.1 r P) h) : wp_M_start h r Q :=
  ⟨P + 1, pm_start_loop hP hPl P 0 (P + 1) 64 (by omega) (by omega) hq⟩
theorem pm_length_loop {h : St} {P : Nat} {r : Int32} {Q : Int32 → St → Prop} (hP : h.2.1 0 = nI P) (hPl : P ≤ 200) : ∀ (d i n : Nat) (b : Int32), i + d = P → d < n → Q ((List.range' i d).foldl (ln_S h.1 r) b) h → wl_M_length_4 Q n h r b (nI i) := by
  intro d
  induction d with
  | zero =>
    intro i n b hi hn hq
    obtain ⟨n, rfl⟩ : ∃ m, n = m + 1 := ⟨n - 1, by omega⟩
    rw [wl_M_length_4, hP]
    exact ⟨fun _ => hq, fun hc => absurd ((nu_le (by omega) (by omega)).mpr (by omega)) hc⟩
  | succ d ih =>
    intro i n b hi hn hq
    obtain ⟨n, rfl⟩ : ∃ m, n = m + 1 := ⟨n - 1, by omega⟩
    have hc : ¬ nI P ≤ nI i := fun h => by have := (nu_le (by omega) (by omega)).mp h; omega
    have hv : vp_in (nI i) 200 := nu_in (by omega) (by omega)
    have hq : Q ((List.range' (i + 1) d).foldl (ln_S h.1 r) (ln_S h.1 r b i)) h := hq
    have nx : ∀ b', ln_S h.1 r b i = b' → wl_M_length_4 Q n h r b' (nI i + 1) := by
      intro b' e
      rw [nI_1]
      exact ih (i + 1) n b' (by omega) (by omega) (e ▸ hq)
    rw [wl_M_length_4, hP, nu_cl (by omega)]
    exact ⟨fun h1 => absurd h1 hc, fun _ => ⟨hv, fun h1 => nx _ (by simp [ln_S, h1]), fun h1 => ⟨hv, nx _ (by simp [ln_S, h1])⟩⟩⟩
theorem pm_length {h : St} {P : Nat} {r : Int32} {Q : Int32 → St → Prop} (hP : h.2.1 0 = nI P) (hPl : P ≤ 200) (hq : Q (ln_F h.1 r P) h) : wp_M_length h r Q :=
  ⟨P + 1, pm_length_loop hP hPl P 0 (P + 1) 0 (by omega) (by omega) hq⟩
theorem pm_members_loop {h : St} {P : Nat} {r : Int32} {Q : Int32 → St → Prop} (hP : h.2.1 0 = nI P) (hPl : P ≤ 200) : ∀ (d i n : Nat) (b : Int32), i + d = P → d < n → Q ((List.range' i d).foldl (mb_S h.1 r) b) h → wl_M_members_4 Q n h r b (nI i) := by
  intro d
  induction d with
  | zero =>
    intro i n b hi hn hq
    obtain ⟨n, rfl⟩ : ∃ m, n = m + 1 := ⟨n - 1, by omega⟩
    rw [wl_M_members_4, hP]
    exact ⟨fun _ => hq, fun hc => absurd ((nu_le (by omega) (by omega)).mpr (by omega)) hc⟩
  | succ d ih =>
    intro i n b hi hn hq
    obtain ⟨n, rfl⟩ : ∃ m, n = m + 1 := ⟨n - 1, by omega⟩
    have hc : ¬ nI P ≤ nI i := fun h => by have := (nu_le (by omega) (by omega)).mp h; omega
    have hv : vp_in (nI i) 200 := nu_in (by omega) (by omega)
    have hq : Q ((List.range' (i + 1) d).foldl (mb_S h.1 r) (mb_S h.1 r b i)) h := hq
    have nx : ∀ b', mb_S h.1 r b i = b' → wl_M_members_4 Q n h r b' (nI i + 1) := by
      intro b' e
      rw [nI_1]
      exact ih (i + 1) n b' (by omega) (by omega) (e ▸ hq)
    rw [wl_M_members_4, hP, nu_cl (by omega)]
    exact ⟨fun h1 => absurd h1 hc, fun _ => ⟨hv, fun h1 => nx _ (by simp [mb_S, h1]), fun h1 => nx _ (by simp [mb_S, h1])⟩⟩
theorem pm_members {h : St} {P : Nat} {r : Int32} {Q : Int32 → St → Prop} (hP : h.2.1 0 = nI P) (hPl : P ≤ 200) (hq : Q (mb_F h.1 r P) h) : wp_M_members h r Q :=
  ⟨P + 1, pm_members_loop hP hPl P 0 (P + 1) 0 (by omega) (by omega) hq⟩
-- conflict
def cf_M (A : Nat → Nat → Int32) (p q : Nat) : Prop := (A 1 p = 1 ∨ A 1 q = 1) ∧ ¬ A 2 q + A 3 q ≤ A 2 p ∧ ¬ A 2 p + A 3 p ≤ A 2 q
theorem pm_conflict {h : St} {p q : Nat} {Q : Int32 → St → Prop} (hp : p < 200) (hq : q < 200) (hT : cf_M h.1 p q → Q 1 h) (hF : ¬ cf_M h.1 p q → Q 0 h) : wp_M_conflict h (nI p) (nI q) Q := by
  have hvp : vp_in (nI p) 200 := nu_in hp (by omega)
  have hvq : vp_in (nI q) 200 := nu_in hq (by omega)
  have hb : (h.1 1 p = 1 ∨ h.1 1 q = 1) → wb_M_conflict_20 Q h (nI p) (nI q) := by
    intro h0
    unfold wb_M_conflict_20
    rw [nu_cl (by omega), nu_cl (by omega)]
    exact ⟨hvp, hvq, hvq, fun h1 => hF (fun z => z.2.1 h1), fun h1 => ⟨hvq, hvp, hvp, fun h2 => hF (fun z => z.2.2 h2), fun h2 => hT ⟨h0, h1, h2⟩⟩⟩
  unfold wp_M_conflict
  rw [nu_cl (by omega), nu_cl (by omega)]
  exact ⟨hvp, fun h1 => hb (Or.inl h1), fun h1 => ⟨hvq, fun h2 => hF (fun z => z.1.elim h1 h2), fun h2 => hb (Or.inr h2)⟩⟩
-- ready
def ok_M (A : Nat → Nat → Int32) (P r q : Nat) : Prop := A 6 q = 1 → ¬ A 5 q = nI r → A 9 r ≤ A 9 (A 5 q).toNatClampNeg ∧ ∀ p, q < p → p < P → A 5 p = nI r → ¬ cf_M A p q
def rd_M (A : Nat → Nat → Int32) (P r : Nat) : Prop := wa_M A r ∧ ∀ q, q < P → ok_M A P r q
theorem pm_isReady_inner {h : St} {P r q : Nat} {K : St → Int32 → Int32 → Prop} {Q : Int32 → St → Prop} (hP : h.2.1 0 = nI P) (hPl : P ≤ 200) (hq : q < P) : ∀ (d i n : Nat), i + d = P → d < n → ((∀ p, i ≤ p → p < P → h.1 5 p = nI r → ¬ cf_M h.1 p q) → K h (nI r) (nI q + 1)) → ((∃ p, i ≤ p ∧ p < P ∧ h.1 5 p = nI r ∧ cf_M h.1 p q) → Q 0 h) → wl_M_isReady_66 K Q n h (nI r) (nI q) (nI i) := by
  intro d
  induction d with
  | zero =>
    intro i n hi hn hK hF
    obtain ⟨n, rfl⟩ : ∃ m, n = m + 1 := ⟨n - 1, by omega⟩
    rw [wl_M_isReady_66, hP]
    exact ⟨fun _ => hK (fun p h1 h2 => by omega), fun hc => absurd ((nu_le (by omega) (by omega)).mpr (by omega)) hc⟩
  | succ d ih =>
    intro i n hi hn hK hF
    obtain ⟨n, rfl⟩ : ∃ m, n = m + 1 := ⟨n - 1, by omega⟩
    have hc : ¬ nI P ≤ nI i := fun h => by have := (nu_le (by omega) (by omega)).mp h; omega
    have hv : vp_in (nI i) 200 := nu_in (by omega) (by omega)
    have nx : (h.1 5 i = nI r → ¬ cf_M h.1 i q) → wl_M_isReady_66 K Q n h (nI r) (nI q) (nI i + 1) := by
      intro h0
      rw [nI_1]
      refine ih (i + 1) n (by omega) (by omega) (fun hA => hK (fun p h1 h2 h3 => ?_)) (fun ⟨p, h1, h2, h3⟩ => hF ⟨p, by omega, h2, h3⟩)
      by_cases e : p = i
      · subst e; exact h0 h3
      · exact hA p (by omega) h2 h3
    rw [wl_M_isReady_66, hP, nu_cl (by omega)]
    refine ⟨fun h1 => absurd h1 hc, fun _ => ⟨hv, fun h1 => nx (fun h2 => absurd h2 h1), fun h1 => ?_⟩⟩
    refine pm_conflict (by omega) (by omega) (fun h2 => ⟨fun h3 => absurd h3 (by decide), fun _ => hF ⟨i, by omega, by omega, h1, h2⟩⟩) (fun h2 => ⟨fun _ => nx (fun _ => h2), fun h3 => absurd rfl h3⟩)
theorem pm_isReady_loop {h : St} {P r : Nat} {Q : Int32 → St → Prop} (hP : h.2.1 0 = nI P) (hPl : P ≤ 200) (hr : r < P) (hrq : ∀ q, q < P → ∃ z, z ≤ q ∧ h.1 5 q = nI z) : ∀ (d i n : Nat), i + d = P → d < n → ((∀ q, i ≤ q → q < P → ok_M h.1 P r q) → Q 1 h) → ((∃ q, i ≤ q ∧ q < P ∧ ¬ ok_M h.1 P r q) → Q 0 h) → wl_M_isReady_12 Q n h (nI r) (nI i) := by
  intro d
  induction d with
  | zero =>
    intro i n hi hn hT hF
    obtain ⟨n, rfl⟩ : ∃ m, n = m + 1 := ⟨n - 1, by omega⟩
    rw [wl_M_isReady_12, hP]
    exact ⟨fun _ => hT (fun q h1 h2 => by omega), fun hc => absurd ((nu_le (by omega) (by omega)).mpr (by omega)) hc⟩
  | succ d ih =>
    intro i n hi hn hT hF
    obtain ⟨n, rfl⟩ : ∃ m, n = m + 1 := ⟨n - 1, by omega⟩
    have hc : ¬ nI P ≤ nI i := fun h => by have := (nu_le (by omega) (by omega)).mp h; omega
    have hv : vp_in (nI i) 200 := nu_in (by omega) (by omega)
    have hvr : vp_in (nI r) 200 := nu_in (by omega) (by omega)
    obtain ⟨z, hz, ez⟩ := hrq i (by omega)
    have hvz : vp_in (h.1 5 i) 200 := by rw [ez]; exact nu_in (by omega) (by omega)
    have nx : ok_M h.1 P r i → wl_M_isReady_12 Q n h (nI r) (nI i + 1) := by
      intro h0
      rw [nI_1]
      refine ih (i + 1) n (by omega) (by omega) (fun hA => hT (fun q h1 h2 => ?_)) (fun ⟨q, h1, h2, h3⟩ => hF ⟨q, by omega, h2, h3⟩)
      by_cases e : q = i
      · subst e; exact h0
      · exact hA q (by omega) h2
    have no : ¬ ok_M h.1 P r i → Q 0 h := fun h0 => hF ⟨i, by omega, by omega, h0⟩
    rw [wl_M_isReady_12, hP, nu_cl (i := i) (by omega), nu_cl (i := r) (by omega)]
    refine ⟨fun h1 => absurd h1 hc, fun _ => ⟨hv, fun h1 => nx (fun h2 => absurd h2 h1), fun h1 => ⟨hv, fun h2 => nx (fun _ h3 => absurd h2 h3), fun h2 => ⟨hv, hvz, hvr, fun h3 => ⟨P + 1, ?_⟩, fun h3 => no (fun h4 => h3 (h4 h1 h2).1)⟩⟩⟩⟩
    rw [nI_1]
    refine pm_isReady_inner hP hPl (by omega) (P - (i + 1)) (i + 1) (P + 1) (by omega) (by omega) (fun hA => nx (fun _ _ => ⟨h3, fun p h4 h5 => hA p (by omega) h5⟩)) (fun ⟨p, h4, h5, h6, h7⟩ => no (fun h8 => (h8 h1 h2).2 p (by omega) h5 h6 h7))
theorem pm_isReady {h : St} {P r : Nat} {Q : Int32 → St → Prop} (hP : h.2.1 0 = nI P) (hPl : P ≤ 200) (hr : r < P) (hrq : ∀ q, q < P → ∃ z, z ≤ q ∧ h.1 5 q = nI z) (hT : rd_M h.1 P r → Q 1 h) (hF : ¬ rd_M h.1 P r → Q 0 h) : wp_M_isReady h (nI r) Q := by
  unfold wp_M_isReady
  refine pm_waits (by omega) (fun h1 => ⟨fun _ => ⟨P + 1, ?_⟩, fun h2 => absurd h2 (by decide)⟩) (fun h1 => ⟨fun h2 => absurd rfl h2, fun _ => hF (fun h2 => h1 h2.1)⟩)
  exact pm_isReady_loop hP hPl hr hrq P 0 (P + 1) (by omega) (by omega) (fun hA => hT ⟨h1, fun q hq => hA q (by omega) hq⟩) (fun ⟨q, _, h2, h3⟩ => hF (fun h4 => h3 (h4.2 q h2)))
-- how many requests of a way wait, are ready
noncomputable def cw_M (A : Nat → Nat → Int32) (w : Int32) (b : Int32) (r : Nat) : Int32 := if bb (wa_M A r ∧ A 1 r = w) then b + 1 else b
noncomputable def cr_M (A : Nat → Nat → Int32) (P : Nat) (w : Int32) (b : Int32) (r : Nat) : Int32 := if bb (rd_M A P r ∧ A 1 r = w) then b + 1 else b
theorem pm_waiting_loop {h : St} {P : Nat} {w : Int32} {Q : Int32 → St → Prop} (hP : h.2.1 0 = nI P) (hPl : P ≤ 200) (hbad : (w < 0 ∨ ¬ w ≤ 1) → Q (-1) h) : ∀ (d i n : Nat) (b : Int32), i + d = P → d < n → (¬ w < 0 → w ≤ 1 → Q ((List.range' i d).foldl (cw_M h.1 w) b) h) → wl_M_waiting_4 Q n h w b (nI i) := by
  intro d
  induction d with
  | zero =>
    intro i n b hi hn hq
    obtain ⟨n, rfl⟩ : ∃ m, n = m + 1 := ⟨n - 1, by omega⟩
    rw [wl_M_waiting_4, hP]
    exact ⟨fun _ => ⟨fun h1 => hbad (Or.inl h1), fun h1 => ⟨fun h2 => hq h1 h2, fun h2 => hbad (Or.inr h2)⟩⟩, fun hc => absurd ((nu_le (by omega) (by omega)).mpr (by omega)) hc⟩
  | succ d ih =>
    intro i n b hi hn hq
    obtain ⟨n, rfl⟩ : ∃ m, n = m + 1 := ⟨n - 1, by omega⟩
    have hc : ¬ nI P ≤ nI i := fun h => by have := (nu_le (by omega) (by omega)).mp h; omega
    have hv : vp_in (nI i) 200 := nu_in (by omega) (by omega)
    have hq : ¬ w < 0 → w ≤ 1 → Q ((List.range' (i + 1) d).foldl (cw_M h.1 w) (cw_M h.1 w b i)) h := hq
    have nx : ∀ b', cw_M h.1 w b i = b' → wl_M_waiting_4 Q n h w b' (nI i + 1) := by
      intro b' e
      rw [nI_1]
      exact ih (i + 1) n b' (by omega) (by omega) (e ▸ hq)
    have ny : (wa_M h.1 i ∧ h.1 1 i = w) → wl_M_waiting_4 Q n h w (b + 1) (nI i + 1) := fun h1 => nx _ (by unfold cw_M; rw [if_pos (bb_t.mpr h1)])
    have nn : ¬ (wa_M h.1 i ∧ h.1 1 i = w) → wl_M_waiting_4 Q n h w b (nI i + 1) := fun h1 => nx _ (by unfold cw_M; rw [if_neg (fun h2 => h1 (bb_t.mp h2))])
    rw [wl_M_waiting_4, hP]
    refine ⟨fun h1 => absurd h1 hc, fun _ => pm_waits (by omega) (fun h1 => ⟨fun h2 => absurd h2 (by decide), fun _ => ?_⟩) (fun h1 => ⟨fun _ => nn (fun z => h1 z.1), fun h2 => absurd rfl h2⟩)⟩
    rw [nu_cl (by omega)]
    exact ⟨hv, fun h2 => nn (fun z => h2 z.2), fun h2 => ny ⟨h1, h2⟩⟩
theorem pm_waiting {h : St} {P : Nat} {w : Int32} {Q : Int32 → St → Prop} (hP : h.2.1 0 = nI P) (hPl : P ≤ 200) (hbad : (w < 0 ∨ ¬ w ≤ 1) → Q (-1) h) (hq : ¬ w < 0 → w ≤ 1 → Q ((List.range' 0 P).foldl (cw_M h.1 w) 0) h) : wp_M_waiting h w Q :=
  ⟨P + 1, pm_waiting_loop hP hPl hbad P 0 (P + 1) 0 (by omega) (by omega) hq⟩
theorem pm_ready_loop {h : St} {P : Nat} {w : Int32} {Q : Int32 → St → Prop} (hP : h.2.1 0 = nI P) (hPl : P ≤ 200) (hrq : ∀ q, q < P → ∃ z, z ≤ q ∧ h.1 5 q = nI z) (hbad : (w < 0 ∨ ¬ w ≤ 1) → Q (-1) h) : ∀ (d i n : Nat) (b : Int32), i + d = P → d < n → (¬ w < 0 → w ≤ 1 → Q ((List.range' i d).foldl (cr_M h.1 P w) b) h) → wl_M_ready_4 Q n h w b (nI i) := by
  intro d
  induction d with
  | zero =>
    intro i n b hi hn hq
    obtain ⟨n, rfl⟩ : ∃ m, n = m + 1 := ⟨n - 1, by omega⟩
    rw [wl_M_ready_4, hP]
    exact ⟨fun _ => ⟨fun h1 => hbad (Or.inl h1), fun h1 => ⟨fun h2 => hq h1 h2, fun h2 => hbad (Or.inr h2)⟩⟩, fun hc => absurd ((nu_le (by omega) (by omega)).mpr (by omega)) hc⟩
  | succ d ih =>
    intro i n b hi hn hq
    obtain ⟨n, rfl⟩ : ∃ m, n = m + 1 := ⟨n - 1, by omega⟩
    have hc : ¬ nI P ≤ nI i := fun h => by have := (nu_le (by omega) (by omega)).mp h; omega
    have hv : vp_in (nI i) 200 := nu_in (by omega) (by omega)
    have hq : ¬ w < 0 → w ≤ 1 → Q ((List.range' (i + 1) d).foldl (cr_M h.1 P w) (cr_M h.1 P w b i)) h := hq
    have nx : ∀ b', cr_M h.1 P w b i = b' → wl_M_ready_4 Q n h w b' (nI i + 1) := by
      intro b' e
      rw [nI_1]
      exact ih (i + 1) n b' (by omega) (by omega) (e ▸ hq)
    have ny : (rd_M h.1 P i ∧ h.1 1 i = w) → wl_M_ready_4 Q n h w (b + 1) (nI i + 1) := fun h1 => nx _ (by unfold cr_M; rw [if_pos (bb_t.mpr h1)])
    have nn : ¬ (rd_M h.1 P i ∧ h.1 1 i = w) → wl_M_ready_4 Q n h w b (nI i + 1) := fun h1 => nx _ (by unfold cr_M; rw [if_neg (fun h2 => h1 (bb_t.mp h2))])
    rw [wl_M_ready_4, hP, nu_cl (by omega)]
    exact ⟨fun h1 => absurd h1 hc, fun _ => ⟨hv, fun h2 => nn (fun z => h2 z.2), fun h2 => pm_isReady hP hPl (by omega) hrq (fun h1 => ⟨fun h3 => absurd h3 (by decide), fun _ => ny ⟨h1, h2⟩⟩) (fun h1 => ⟨fun _ => nn (fun z => h1 z.1), fun h3 => absurd rfl h3⟩)⟩⟩
theorem pm_ready {h : St} {P : Nat} {w : Int32} {Q : Int32 → St → Prop} (hP : h.2.1 0 = nI P) (hPl : P ≤ 200) (hrq : ∀ q, q < P → ∃ z, z ≤ q ∧ h.1 5 q = nI z) (hbad : (w < 0 ∨ ¬ w ≤ 1) → Q (-1) h) (hq : ¬ w < 0 → w ≤ 1 → Q ((List.range' 0 P).foldl (cr_M h.1 P w) 0) h) : wp_M_ready h w Q :=
  ⟨P + 1, pm_ready_loop hP hPl hrq hbad P 0 (P + 1) 0 (by omega) (by omega) hq⟩
-- sweep and late: the least start, the least deadline
noncomputable def cs_M (A : Nat → Nat → Int32) (P : Nat) (w low : Int32) (r : Nat) : Bool := bb (rd_M A P r ∧ A 1 r = w ∧ ¬ st_F A (nI r) P < low)
noncomputable def cl_M (A : Nat → Nat → Int32) (time : Int32) (P : Nat) (w : Int32) (r : Nat) : Bool := bb (rd_M A P r ∧ A 1 r = w ∧ ¬ time < A 8 r)
theorem pm_sweep_loop {h : St} {P : Nat} {w low : Int32} {Q : Int32 → St → Prop} (hP : h.2.1 0 = nI P) (hPl : P ≤ 200) (hrq : ∀ q, q < P → ∃ z, z ≤ q ∧ h.1 5 q = nI z) : ∀ (d i n : Nat) (b : Option Nat), i + d = P → d < n → (∀ q, b = some q → q < 200) → Q (en ((List.range' i d).foldl (bs (cs_M h.1 P w low) (fun r => st_F h.1 (nI r) P)) b)) h → wl_M_sweep_5 Q n h w low (en b) (nI i) := by
  intro d
  induction d with
  | zero =>
    intro i n b hi hn hb hq
    obtain ⟨n, rfl⟩ : ∃ m, n = m + 1 := ⟨n - 1, by omega⟩
    rw [wl_M_sweep_5, hP]
    exact ⟨fun _ => hq, fun hc => absurd ((nu_le (by omega) (by omega)).mpr (by omega)) hc⟩
  | succ d ih =>
    intro i n b hi hn hb hq
    obtain ⟨n, rfl⟩ : ∃ m, n = m + 1 := ⟨n - 1, by omega⟩
    have hc : ¬ nI P ≤ nI i := fun h => by have := (nu_le (by omega) (by omega)).mp h; omega
    have hv : vp_in (nI i) 200 := nu_in (by omega) (by omega)
    have hq : Q (en ((List.range' (i + 1) d).foldl (bs (cs_M h.1 P w low) (fun r => st_F h.1 (nI r) P)) (bs (cs_M h.1 P w low) (fun r => st_F h.1 (nI r) P) b i))) h := hq
    have nx : ∀ b', bs (cs_M h.1 P w low) (fun r => st_F h.1 (nI r) P) b i = b' → (∀ q, b' = some q → q < 200) → wl_M_sweep_5 Q n h w low (en b') (nI i + 1) := by
      intro b' e hb'
      rw [nI_1]
      exact ih (i + 1) n b' (by omega) (by omega) hb' (e ▸ hq)
    have no : ¬ (rd_M h.1 P i ∧ h.1 1 i = w ∧ ¬ st_F h.1 (nI i) P < low) → wl_M_sweep_5 Q n h w low (en b) (nI i + 1) := fun h1 => nx b (bs_no (bb_f.mpr h1)) hb
    have hb1 : ∀ q, some i = some q → q < 200 := fun q e => by cases e; omega
    rw [wl_M_sweep_5, hP]
    refine ⟨fun h1 => absurd h1 hc, fun _ => pm_isReady hP hPl (by omega) hrq (fun h1 => ⟨fun h2 => absurd h2 (by decide), fun _ => ?_⟩) (fun h1 => ⟨fun _ => no (fun z => h1 z.1), fun h2 => absurd rfl h2⟩)⟩
    rw [nu_cl (by omega)]
    refine ⟨hv, fun h2 => no (fun z => h2 z.2.1), fun h2 => pm_start hP hPl ⟨fun h3 => no (fun z => z.2.2 h3), fun h3 => ?_⟩⟩
    have hcd : cs_M h.1 P w low i = true := bb_t.mpr ⟨h1, h2, h3⟩
    cases b with
    | none => exact ⟨fun _ => nx (some i) (bs_first hcd) hb1, fun h4 => absurd (by decide) h4⟩
    | some q => exact ⟨fun h4 => absurd h4 (nu_neg (by have := hb q rfl; omega)), fun _ => pm_start hP hPl (pm_start hP hPl ⟨fun h4 => nx (some q) (bs_keep h4) hb, fun h4 => nx (some i) (bs_take hcd h4) hb1⟩)⟩
theorem pm_sweep {h : St} {P : Nat} {w low : Int32} {Q : Int32 → St → Prop} (hP : h.2.1 0 = nI P) (hPl : P ≤ 200) (hrq : ∀ q, q < P → ∃ z, z ≤ q ∧ h.1 5 q = nI z) (hq : Q (en ((List.range' 0 P).foldl (bs (cs_M h.1 P w low) (fun r => st_F h.1 (nI r) P)) none)) h) : wp_M_sweep h w low Q :=
  ⟨P + 1, pm_sweep_loop hP hPl hrq P 0 (P + 1) none (by omega) (by omega) (fun q e => by cases e) hq⟩
theorem pm_late_loop {h : St} {P : Nat} {w : Int32} {Q : Int32 → St → Prop} (hP : h.2.1 0 = nI P) (hPl : P ≤ 200) (hrq : ∀ q, q < P → ∃ z, z ≤ q ∧ h.1 5 q = nI z) : ∀ (d i n : Nat) (b : Option Nat), i + d = P → d < n → (∀ q, b = some q → q < 200) → Q (en ((List.range' i d).foldl (bs (cl_M h.1 (h.2.1 2) P w) (h.1 8)) b)) h → wl_M_late_4 Q n h w (en b) (nI i) := by
  intro d
  induction d with
  | zero =>
    intro i n b hi hn hb hq
    obtain ⟨n, rfl⟩ : ∃ m, n = m + 1 := ⟨n - 1, by omega⟩
    rw [wl_M_late_4, hP]
    exact ⟨fun _ => hq, fun hc => absurd ((nu_le (by omega) (by omega)).mpr (by omega)) hc⟩
  | succ d ih =>
    intro i n b hi hn hb hq
    obtain ⟨n, rfl⟩ : ∃ m, n = m + 1 := ⟨n - 1, by omega⟩
    have hc : ¬ nI P ≤ nI i := fun h => by have := (nu_le (by omega) (by omega)).mp h; omega
    have hv : vp_in (nI i) 200 := nu_in (by omega) (by omega)
    have hq : Q (en ((List.range' (i + 1) d).foldl (bs (cl_M h.1 (h.2.1 2) P w) (h.1 8)) (bs (cl_M h.1 (h.2.1 2) P w) (h.1 8) b i))) h := hq
    have nx : ∀ b', bs (cl_M h.1 (h.2.1 2) P w) (h.1 8) b i = b' → (∀ q, b' = some q → q < 200) → wl_M_late_4 Q n h w (en b') (nI i + 1) := by
      intro b' e hb'
      rw [nI_1]
      exact ih (i + 1) n b' (by omega) (by omega) hb' (e ▸ hq)
    have no : ¬ (rd_M h.1 P i ∧ h.1 1 i = w ∧ ¬ h.2.1 2 < h.1 8 i) → wl_M_late_4 Q n h w (en b) (nI i + 1) := fun h1 => nx b (bs_no (bb_f.mpr h1)) hb
    have hb1 : ∀ q, some i = some q → q < 200 := fun q e => by cases e; omega
    rw [wl_M_late_4, hP]
    refine ⟨fun h1 => absurd h1 hc, fun _ => pm_isReady hP hPl (by omega) hrq (fun h1 => ⟨fun h2 => absurd h2 (by decide), fun _ => ?_⟩) (fun h1 => ⟨fun _ => no (fun z => h1 z.1), fun h2 => absurd rfl h2⟩)⟩
    rw [nu_cl (i := i) (by omega)]
    refine ⟨hv, fun h2 => no (fun z => h2 z.2.1), fun h2 => ⟨hv, fun h3 => no (fun z => z.2.2 h3), fun h3 => ?_⟩⟩
    have hcd : cl_M h.1 (h.2.1 2) P w i = true := bb_t.mpr ⟨h1, h2, h3⟩
    cases b with
    | none => exact ⟨fun _ => nx (some i) (bs_first hcd) hb1, fun h4 => absurd (by decide) h4⟩
    | some q =>
      have hq2 : q < 200 := hb q rfl
      have e : en (some q) = nI q := rfl
      rw [e, nu_cl (i := q) (by omega)]
      exact ⟨fun h4 => absurd h4 (nu_neg (by omega)), fun _ => ⟨hv, nu_in hq2 (by omega), fun h4 => nx (some q) (bs_keep h4) hb, fun h4 => nx (some i) (bs_take hcd h4) hb1⟩⟩
theorem pm_late {h : St} {P : Nat} {w : Int32} {Q : Int32 → St → Prop} (hP : h.2.1 0 = nI P) (hPl : P ≤ 200) (hrq : ∀ q, q < P → ∃ z, z ≤ q ∧ h.1 5 q = nI z) (hq : Q (en ((List.range' 0 P).foldl (bs (cl_M h.1 (h.2.1 2) P w) (h.1 8)) none)) h) : wp_M_late h w Q :=
  ⟨P + 1, pm_late_loop hP hPl hrq P 0 (P + 1) none (by omega) (by omega) (fun q e => by cases e) hq⟩
-- which request a part joins
noncomputable def jm_M (A : Nat → Nat → Int32) (bar : Int32) (P : Nat) (side : Int32) (r : Nat) : Bool := bb (wa_M A r ∧ A 1 r = A 1 P ∧ A 9 r = bar ∧ ¬ 4 ≤ mb_F A (nI r) P ∧ ¬ 16 < ln_F A (nI r) P + A 3 P ∧ ((side = 0 ∧ st_F A (nI r) P + ln_F A (nI r) P = A 2 P) ∨ (¬ side = 0 ∧ st_F A (nI r) P = A 2 P + A 3 P)))
theorem pm_joined_side {h : St} {P : Nat} {x2 : Int32} {K : St → Int32 → Int32 → Prop} {Q : Int32 → St → Prop} {R : Option Nat → Prop} (hP : h.2.1 0 = nI P) (hPl : P < 200) (hs : ∀ r, r < P → R (some r) → Q (nI r) h) (hn0 : R none → K h (nI P) (x2 + 1)) : ∀ (d i n : Nat), i + d = P → d < n → R ((List.range' i d).find? (jm_M h.1 (h.2.1 1) P x2)) → wl_M_joined_43 K Q n h (nI P) x2 (nI i) := by
  intro d
  induction d with
  | zero =>
    intro i n hi hn hq
    obtain ⟨n, rfl⟩ : ∃ m, n = m + 1 := ⟨n - 1, by omega⟩
    rw [wl_M_joined_43]
    exact ⟨fun _ => hn0 hq, fun hc => absurd ((nu_le (by omega) (by omega)).mpr (by omega)) hc⟩
  | succ d ih =>
    intro i n hi hn hq
    obtain ⟨n, rfl⟩ : ∃ m, n = m + 1 := ⟨n - 1, by omega⟩
    have hc : ¬ nI P ≤ nI i := fun h => by have := (nu_le (by omega) (by omega)).mp h; omega
    have hv : vp_in (nI i) 200 := nu_in (by omega) (by omega)
    have hvP : vp_in (nI P) 200 := nu_in (by omega) (by omega)
    have hfind : (List.range' i (d + 1)).find? (jm_M h.1 (h.2.1 1) P x2) = match jm_M h.1 (h.2.1 1) P x2 i with | true => some i | false => (List.range' (i + 1) d).find? (jm_M h.1 (h.2.1 1) P x2) := rfl
    rw [hfind] at hq
    have nx : jm_M h.1 (h.2.1 1) P x2 i = false → wl_M_joined_43 K Q n h (nI P) x2 (nI i + 1) := by
      intro e
      rw [e] at hq
      rw [nI_1]
      exact ih (i + 1) n (by omega) (by omega) hq
    have hit : jm_M h.1 (h.2.1 1) P x2 i = true → Q (nI i) h := by
      intro e
      rw [e] at hq
      exact hs i (by omega) hq
    have no : ¬ (wa_M h.1 i ∧ h.1 1 i = h.1 1 P ∧ h.1 9 i = h.2.1 1 ∧ ¬ 4 ≤ mb_F h.1 (nI i) P ∧ ¬ 16 < ln_F h.1 (nI i) P + h.1 3 P ∧ ((x2 = 0 ∧ st_F h.1 (nI i) P + ln_F h.1 (nI i) P = h.1 2 P) ∨ (¬ x2 = 0 ∧ st_F h.1 (nI i) P = h.1 2 P + h.1 3 P))) → wl_M_joined_43 K Q n h (nI P) x2 (nI i + 1) := fun z => nx (bb_f.mpr z)
    rw [wl_M_joined_43]
    refine ⟨fun h1 => absurd h1 hc, fun _ => pm_waits (by omega) (fun h1 => ⟨fun h2 => absurd h2 (by decide), fun _ => ?_⟩) (fun h1 => ⟨fun _ => no (fun z => h1 z.1), fun h2 => absurd rfl h2⟩)⟩
    rw [nu_cl (i := i) (by omega), nu_cl (i := P) (by omega)]
    refine ⟨hv, hvP, fun h2 => no (fun z => h2 z.2.1), fun h2 => ⟨hv, fun h3 => no (fun z => h3 z.2.2.1), fun h3 => pm_members hP (by omega) ⟨fun h4 => no (fun z => z.2.2.2.1 h4), fun h4 => pm_length hP (by omega) ⟨hvP, fun h5 => no (fun z => z.2.2.2.2.1 h5), fun h5 => ⟨fun h6 => pm_start hP (by omega) ⟨hvP, hvP, fun h7 => ?_, fun h7 => ?_⟩, fun h6 => pm_start hP (by omega) (pm_length hP (by omega) ⟨hvP, fun h7 => ?_, fun h7 => ?_⟩)⟩⟩⟩⟩⟩
    · unfold wb_M_joined_168
      exact ⟨fun _ => no (fun z => z.2.2.2.2.2.elim (fun y => h6 y.1) (fun y => h7 y.2)), fun z => absurd rfl z⟩
    · unfold wb_M_joined_168
      exact ⟨fun z => absurd z (by decide), fun _ => hit (bb_t.mpr ⟨h1, h2, h3, h4, h5, Or.inr ⟨h6, h7⟩⟩)⟩
    · unfold wb_M_joined_168
      exact ⟨fun _ => no (fun z => z.2.2.2.2.2.elim (fun y => h7 y.2) (fun y => y.1 h6)), fun z => absurd rfl z⟩
    · unfold wb_M_joined_168
      exact ⟨fun z => absurd z (by decide), fun _ => hit (bb_t.mpr ⟨h1, h2, h3, h4, h5, Or.inl ⟨h6, h7⟩⟩)⟩
/-- the answer of joined: the part's own number, or the request that it joins -/
noncomputable def jo_M (A : Nat → Nat → Int32) (bar : Int32) (P : Nat) : Nat := match bb (∃ q, q < P ∧ A 6 q = 1 ∧ cf_M A P q) with
  | true => P
  | false => match (List.range' 0 P).find? (jm_M A bar P 0) with
    | some r => r
    | none => match (List.range' 0 P).find? (jm_M A bar P 1) with
      | some r => r
      | none => P
theorem pm_joined_sides {h : St} {P : Nat} {Q : Int32 → St → Prop} (hP : h.2.1 0 = nI P) (hPl : P < 200) (hq : Q (nI (match (List.range' 0 P).find? (jm_M h.1 (h.2.1 1) P 0) with | some r => r | none => match (List.range' 0 P).find? (jm_M h.1 (h.2.1 1) P 1) with | some r => r | none => P)) h) : wl_M_joined_36 Q 3 h (nI P) 0 := by
  rw [wl_M_joined_36]
  refine ⟨fun h1 => absurd h1 (by decide), fun _ => ⟨P + 1, ?_⟩⟩
  refine pm_joined_side (R := fun o => Q (nI (match o with | some r => r | none => match (List.range' 0 P).find? (jm_M h.1 (h.2.1 1) P 1) with | some r => r | none => P)) h) hP hPl (fun r _ hR => hR) (fun hR => ?_) P 0 (P + 1) (by omega) (by omega) hq
  have e1 : (0 + 1 : Int32) = 1 := rfl
  rw [e1, wl_M_joined_36]
  refine ⟨fun h1 => absurd h1 (by decide), fun _ => ⟨P + 1, ?_⟩⟩
  refine pm_joined_side (R := fun o => Q (nI (match o with | some r => r | none => P)) h) hP hPl (fun r _ hR => hR) (fun hR => ?_) P 0 (P + 1) (by omega) (by omega) hR
  have e2 : (1 + 1 : Int32) = 2 := rfl
  rw [e2, wl_M_joined_36]
  exact ⟨fun _ => hR, fun h1 => absurd (by decide) h1⟩
theorem pm_joined_loop {h : St} {P : Nat} {Q : Int32 → St → Prop} (hP : h.2.1 0 = nI P) (hPl : P < 200) : ∀ (d i n : Nat), i + d = P → d < n → ((∃ q, i ≤ q ∧ q < P ∧ h.1 6 q = 1 ∧ cf_M h.1 P q) → Q (nI P) h) → ((∀ q, i ≤ q → q < P → h.1 6 q = 1 → ¬ cf_M h.1 P q) → Q (nI (match (List.range' 0 P).find? (jm_M h.1 (h.2.1 1) P 0) with | some r => r | none => match (List.range' 0 P).find? (jm_M h.1 (h.2.1 1) P 1) with | some r => r | none => P)) h) → wl_M_joined_2 Q n h (nI P) (nI i) := by
  intro d
  induction d with
  | zero =>
    intro i n hi hn hT hF
    obtain ⟨n, rfl⟩ : ∃ m, n = m + 1 := ⟨n - 1, by omega⟩
    rw [wl_M_joined_2]
    exact ⟨fun _ => ⟨3, pm_joined_sides hP hPl (hF (fun q h1 h2 => by omega))⟩, fun hc => absurd ((nu_le (by omega) (by omega)).mpr (by omega)) hc⟩
  | succ d ih =>
    intro i n hi hn hT hF
    obtain ⟨n, rfl⟩ : ∃ m, n = m + 1 := ⟨n - 1, by omega⟩
    have hc : ¬ nI P ≤ nI i := fun h => by have := (nu_le (by omega) (by omega)).mp h; omega
    have hv : vp_in (nI i) 200 := nu_in (by omega) (by omega)
    have nx : (h.1 6 i = 1 → ¬ cf_M h.1 P i) → wl_M_joined_2 Q n h (nI P) (nI i + 1) := by
      intro h0
      rw [nI_1]
      refine ih (i + 1) n (by omega) (by omega) (fun ⟨q, h1, h2⟩ => hT ⟨q, by omega, h2⟩) (fun hA => hF (fun q h1 h2 h3 => ?_))
      by_cases e : q = i
      · subst e; exact h0 h3
      · exact hA q (by omega) h2 h3
    rw [wl_M_joined_2, nu_cl (by omega)]
    exact ⟨fun h1 => absurd h1 hc, fun _ => ⟨hv, fun h1 => nx (fun h2 => absurd h2 h1), fun h1 => pm_conflict (by omega) (by omega) (fun h2 => ⟨fun h3 => absurd h3 (by decide), fun _ => hT ⟨i, by omega, by omega, h1, h2⟩⟩) (fun h2 => ⟨fun _ => nx (fun _ => h2), fun h3 => absurd rfl h3⟩)⟩⟩
theorem pm_joined {h : St} {P : Nat} {Q : Int32 → St → Prop} (hP : h.2.1 0 = nI P) (hPl : P < 200) (hq : Q (nI (jo_M h.1 (h.2.1 1) P)) h) : wp_M_joined h (nI P) Q := by
  refine ⟨P + 1, pm_joined_loop hP hPl P 0 (P + 1) (by omega) (by omega) (fun ⟨q, _, h2⟩ => ?_) (fun hA => ?_)⟩
  · unfold jo_M at hq
    rw [bb_t.mpr ⟨q, h2⟩] at hq
    exact hq
  · unfold jo_M at hq
    rw [bb_f.mpr (fun ⟨q, h1, h2, h3⟩ => hA q (by omega) h1 h2 h3)] at hq
    exact hq
