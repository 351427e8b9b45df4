-- the component: what its reading methods answer, over the numbers that it holds
/-- the queue, as a list -/
def qu_E (g : St) (L : List Nat) : Prop := g.2.1 1 = nI L.length ∧ L.length ≤ 24 ∧ ∀ i r, L[i]? = some r → g.1 14 i = nI r ∧ r < 200
theorem pe_isReady {g : St} {r : Nat} {w : Int32} {Q : Int32 → St → Prop} (hr : r < 200) (hT : (¬ g.1 13 r = 0 ∧ g.1 7 r = w) → Q 1 g) (hF : ¬ (¬ g.1 13 r = 0 ∧ g.1 7 r = w) → Q 0 g) : wp_R_isReady g (nI r) w Q := by
  have hv : vp_in (nI r) 200 := nu_in hr (by omega)
  unfold wp_R_isReady
  rw [nu_cl (by omega)]
  exact ⟨hv, fun h1 => hF (fun z => z.1 h1), fun h1 => ⟨hv, fun h2 => hF (fun z => h2 z.2), fun h2 => hT ⟨h1, h2⟩⟩⟩
theorem pe_end {g : St} {r : Nat} {Q : Int32 → St → Prop} (hr : r < 200) (hq : Q (g.1 8 r + g.1 9 r) g) : wp_R_end g (nI r) Q := by
  have hv : vp_in (nI r) 200 := nu_in hr (by omega)
  unfold wp_R_end
  rw [nu_cl (by omega)]
  exact ⟨hv, hv, hq⟩
theorem pe_hasRoom {g : St} {r : Nat} {n : Int32} {Q : Int32 → St → Prop} (hr : r < 200) (hT : (¬ 4 ≤ g.1 10 r ∧ ¬ 16 < g.1 9 r + n) → Q 1 g) (hF : ¬ (¬ 4 ≤ g.1 10 r ∧ ¬ 16 < g.1 9 r + n) → Q 0 g) : wp_R_hasRoom g (nI r) n Q := by
  have hv : vp_in (nI r) 200 := nu_in hr (by omega)
  unfold wp_R_hasRoom
  rw [nu_cl (by omega)]
  exact ⟨hv, fun h1 => hF (fun z => z.1 h1), fun h1 => ⟨hv, fun h2 => hF (fun z => z.2 h2), fun h2 => hT ⟨h1, h2⟩⟩⟩
-- sectors as bits
def mk_ (s n : Int32) : Int64 := (((1 : Int64) <<< (n.toInt64 &&& 63)) - (1 : Int64)) <<< (s.toInt64 &&& 63)
theorem pe_sectorsFrom {g : St} {s n : Int32} {Q : Int64 → St → Prop} (hq : Q (mk_ s n) g) : wp_E_sectorsFrom g s n Q := hq
theorem pe_sectors {g : St} {p : Nat} {Q : Int64 → St → Prop} (hp : p < 200) (hq : Q (mk_ (g.1 2 p) (g.1 3 p)) g) : wp_P_sectors g (nI p) Q := by
  have hv : vp_in (nI p) 200 := nu_in hp (by omega)
  unfold wp_P_sectors
  rw [nu_cl (by omega)]
  exact ⟨hv, hv, hq⟩
-- the least start, the least deadline among the queue's
noncomputable def cs_E (G : Nat → Nat → Int32) (w low : Int32) (r : Nat) : Bool := bb (¬ G 13 r = 0 ∧ G 7 r = w ∧ ¬ G 8 r < low)
noncomputable def cl_E (G : Nat → Nat → Int32) (w time : Int32) (r : Nat) : Bool := bb (¬ G 13 r = 0 ∧ G 7 r = w ∧ ¬ time < G 11 r)
theorem pe_leastStart_loop {g : St} {L : List Nat} {w low : Int32} {Q : Int32 → St → Prop} (hL : qu_E g L) : ∀ (S : List Nat) (i n : Nat) (b : Option Nat), L.drop i = S → i ≤ L.length → S.length < n → (∀ q, b = some q → q < 200) → Q (en (S.foldl (bs (cs_E g.1 w low) (g.1 8)) b)) g → wl_R_leastStart_5 Q n g w low (en b) (nI i) := by
  obtain ⟨hc0, hl24, hat⟩ := hL
  intro S
  induction S with
  | nil =>
    intro i n b hS hi hn hb hq
    obtain ⟨n, rfl⟩ : ∃ m, n = m + 1 := ⟨n - 1, by simp at hn; omega⟩
    have h1 := dr_nil hS
    rw [wl_R_leastStart_5, hc0]
    exact ⟨fun _ => hq, fun hc => absurd ((nu_le (by omega) (by omega)).mpr (by omega)) hc⟩
  | cons r S ih =>
    intro i n b hS hi hn hb hq
    obtain ⟨n, rfl⟩ : ∃ m, n = m + 1 := ⟨n - 1, by simp at hn; omega⟩
    obtain ⟨h1, h2, h3⟩ := dr_cons hS
    obtain ⟨hr, hr2⟩ := hat i r h1
    have hn' : S.length < n := by simp at hn; omega
    have hc : ¬ nI L.length ≤ nI i := fun h => by have := (nu_le (by omega) (by omega)).mp h; omega
    have hv : vp_in (nI i) 24 := nu_in (by omega) (by omega)
    have hvr : vp_in (nI r) 200 := nu_in hr2 (by omega)
    have hq : Q (en (S.foldl (bs (cs_E g.1 w low) (g.1 8)) (bs (cs_E g.1 w low) (g.1 8) b r))) g := hq
    have nx : ∀ b', bs (cs_E g.1 w low) (g.1 8) b r = b' → (∀ q, b' = some q → q < 200) → wl_R_leastStart_5 Q n g w low (en b') (nI i + 1) := by
      intro b' e hb'
      rw [nI_1]
      exact ih (i + 1) n b' h2 (by omega) hn' hb' (e ▸ hq)
    have no : ¬ (¬ g.1 13 r = 0 ∧ g.1 7 r = w ∧ ¬ g.1 8 r < low) → wl_R_leastStart_5 Q n g w low (en b) (nI i + 1) := fun z => nx b (bs_no (bb_f.mpr z)) hb
    have hb1 : ∀ q, some r = some q → q < 200 := fun q e => by cases e; exact hr2
    rw [wl_R_leastStart_5, hc0, nu_cl (i := i) (by omega), hr]
    refine ⟨fun h4 => absurd h4 hc, fun _ => ⟨hv, pe_isReady hr2 (fun h4 => ⟨fun h5 => absurd h5 (by decide), fun _ => ?_⟩) (fun h4 => ⟨fun _ => no (fun z => h4 ⟨z.1, z.2.1⟩), fun h5 => absurd rfl h5⟩)⟩⟩
    rw [nu_cl (i := r) (by omega)]
    refine ⟨hvr, fun h5 => no (fun z => z.2.2 h5), fun h5 => ?_⟩
    have hcd : cs_E g.1 w low r = true := bb_t.mpr ⟨h4.1, h4.2, h5⟩
    cases b with
    | none => exact ⟨fun _ => nx (some r) (bs_first hcd) hb1, fun h6 => absurd rfl h6⟩
    | some q =>
      have hq2 : q < 200 := hb q rfl
      have e : en (some q) = nI q := rfl
      rw [e, nu_cl (i := q) (by omega)]
      exact ⟨fun h6 => absurd h6 (nu_m1 (by omega)), fun _ => ⟨hvr, nu_in hq2 (by omega), fun h6 => nx (some q) (bs_keep h6) hb, fun h6 => nx (some r) (bs_take hcd h6) hb1⟩⟩
theorem pe_leastStart {g : St} {L : List Nat} {w low : Int32} {Q : Int32 → St → Prop} (hL : qu_E g L) (hq : Q (en (L.foldl (bs (cs_E g.1 w low) (g.1 8)) none)) g) : wp_R_leastStart g w low Q :=
  ⟨L.length + 1, pe_leastStart_loop hL L 0 (L.length + 1) none rfl (by omega) (by omega) (fun q e => by cases e) hq⟩
theorem pe_leastExpired_loop {g : St} {L : List Nat} {w time : Int32} {Q : Int32 → St → Prop} (hL : qu_E g L) : ∀ (S : List Nat) (i n : Nat) (b : Option Nat), L.drop i = S → i ≤ L.length → S.length < n → (∀ q, b = some q → q < 200) → Q (en (S.foldl (bs (cl_E g.1 w time) (g.1 11)) b)) g → wl_R_leastExpired_5 Q n g w time (en b) (nI i) := by
  obtain ⟨hc0, hl24, hat⟩ := hL
  intro S
  induction S with
  | nil =>
    intro i n b hS hi hn hb hq
    obtain ⟨n, rfl⟩ : ∃ m, n = m + 1 := ⟨n - 1, by simp at hn; omega⟩
    have h1 := dr_nil hS
    rw [wl_R_leastExpired_5, hc0]
    exact ⟨fun _ => hq, fun hc => absurd ((nu_le (by omega) (by omega)).mpr (by omega)) hc⟩
  | cons r S ih =>
    intro i n b hS hi hn hb hq
    obtain ⟨n, rfl⟩ : ∃ m, n = m + 1 := ⟨n - 1, by simp at hn; omega⟩
    obtain ⟨h1, h2, h3⟩ := dr_cons hS
    obtain ⟨hr, hr2⟩ := hat i r h1
    have hn' : S.length < n := by simp at hn; omega
    have hc : ¬ nI L.length ≤ nI i := fun h => by have := (nu_le (by omega) (by omega)).mp h; omega
    have hv : vp_in (nI i) 24 := nu_in (by omega) (by omega)
    have hvr : vp_in (nI r) 200 := nu_in hr2 (by omega)
    have hq : Q (en (S.foldl (bs (cl_E g.1 w time) (g.1 11)) (bs (cl_E g.1 w time) (g.1 11) b r))) g := hq
    have nx : ∀ b', bs (cl_E g.1 w time) (g.1 11) b r = b' → (∀ q, b' = some q → q < 200) → wl_R_leastExpired_5 Q n g w time (en b') (nI i + 1) := by
      intro b' e hb'
      rw [nI_1]
      exact ih (i + 1) n b' h2 (by omega) hn' hb' (e ▸ hq)
    have no : ¬ (¬ g.1 13 r = 0 ∧ g.1 7 r = w ∧ ¬ time < g.1 11 r) → wl_R_leastExpired_5 Q n g w time (en b) (nI i + 1) := fun z => nx b (bs_no (bb_f.mpr z)) hb
    have hb1 : ∀ q, some r = some q → q < 200 := fun q e => by cases e; exact hr2
    rw [wl_R_leastExpired_5, hc0, nu_cl (i := i) (by omega), hr]
    refine ⟨fun h4 => absurd h4 hc, fun _ => ⟨hv, pe_isReady hr2 (fun h4 => ⟨fun h5 => absurd h5 (by decide), fun _ => ?_⟩) (fun h4 => ⟨fun _ => no (fun z => h4 ⟨z.1, z.2.1⟩), fun h5 => absurd rfl h5⟩)⟩⟩
    rw [nu_cl (i := r) (by omega)]
    refine ⟨hvr, fun h5 => no (fun z => z.2.2 h5), fun h5 => ?_⟩
    have hcd : cl_E g.1 w time r = true := bb_t.mpr ⟨h4.1, h4.2, h5⟩
    cases b with
    | none => exact ⟨fun _ => nx (some r) (bs_first hcd) hb1, fun h6 => absurd rfl h6⟩
    | some q =>
      have hq2 : q < 200 := hb q rfl
      have e : en (some q) = nI q := rfl
      rw [e, nu_cl (i := q) (by omega)]
      exact ⟨fun h6 => absurd h6 (nu_m1 (by omega)), fun _ => ⟨hvr, nu_in hq2 (by omega), fun h6 => nx (some q) (bs_keep h6) hb, fun h6 => nx (some r) (bs_take hcd h6) hb1⟩⟩
theorem pe_leastExpired {g : St} {L : List Nat} {w time : Int32} {Q : Int32 → St → Prop} (hL : qu_E g L) (hq : Q (en (L.foldl (bs (cl_E g.1 w time) (g.1 11)) none)) g) : wp_R_leastExpired g w time Q :=
  ⟨L.length + 1, pe_leastExpired_loop hL L 0 (L.length + 1) none rfl (by omega) (by omega) (fun q e => by cases e) hq⟩
theorem pe_hasReady {g : St} {L : List Nat} {w : Int32} {Q : Int32 → St → Prop} (hL : qu_E g L) (hT : ¬ L.foldl (bs (cs_E g.1 w 0) (g.1 8)) none = none → Q 1 g) (hF : L.foldl (bs (cs_E g.1 w 0) (g.1 8)) none = none → Q 0 g) : wp_R_hasReady g w Q := by
  unfold wp_R_hasReady
  refine pe_leastStart hL ?_
  cases hb : L.foldl (bs (cs_E g.1 w 0) (g.1 8)) none with
  | none => exact ⟨fun _ => hF hb, fun h1 => absurd rfl h1⟩
  | some q =>
    have hq : q < 200 := by
      rcases bs_mem L none q hb with ⟨h1, _⟩ | h1
      · obtain ⟨i, hi⟩ := List.getElem?_of_mem h1
        exact (hL.2.2 i q hi).2
      · cases h1
    exact ⟨fun h1 => absurd h1 (nu_m1 (by omega)), fun _ => hT (by rw [hb]; exact fun z => by cases z)⟩
-- which request a part joins
noncomputable def nf_E (G : Nat → Nat → Int32) (w s n gr : Int32) (r : Nat) : Bool := bb (G 7 r = w ∧ G 12 r = gr ∧ (¬ 4 ≤ G 10 r ∧ ¬ 16 < G 9 r + n) ∧ G 8 r + G 9 r = s)
noncomputable def nb_E (G : Nat → Nat → Int32) (w s n gr : Int32) (r : Nat) : Bool := bb (G 7 r = w ∧ G 12 r = gr ∧ (¬ 4 ≤ G 10 r ∧ ¬ 16 < G 9 r + n) ∧ G 8 r = s + n)
def ne_E (f1 f2 : Nat → Bool) (S : List Nat) (b : Option Nat) : Option Nat := match S.find? f1 with
  | some r => some r
  | none => match b with
    | some q => some q
    | none => S.find? f2
theorem pe_neighbourOf_loop {g : St} {L : List Nat} {w s n0 gr : Int32} {Q : Int32 → St → Prop} (hL : qu_E g L) : ∀ (S : List Nat) (i n : Nat) (b : Option Nat), L.drop i = S → i ≤ L.length → S.length < n → (∀ q, b = some q → q < 200) → Q (en (ne_E (nf_E g.1 w s n0 gr) (nb_E g.1 w s n0 gr) S b)) g → wl_R_neighbourOf_6 Q n g w s n0 gr (en b) (nI i) := by
  obtain ⟨hc0, hl24, hat⟩ := hL
  intro S
  induction S with
  | nil =>
    intro i n b hS hi hn hb hq
    obtain ⟨n, rfl⟩ : ∃ m, n = m + 1 := ⟨n - 1, by simp at hn; omega⟩
    have h1 := dr_nil hS
    have hq : Q (en b) g := by
      cases b with
      | none => exact hq
      | some q => exact hq
    rw [wl_R_neighbourOf_6, hc0]
    exact ⟨fun _ => hq, fun hc => absurd ((nu_le (by omega) (by omega)).mpr (by omega)) hc⟩
  | cons r S ih =>
    intro i n b hS hi hn hb hq
    obtain ⟨n, rfl⟩ : ∃ m, n = m + 1 := ⟨n - 1, by simp at hn; omega⟩
    obtain ⟨h1, h2, h3⟩ := dr_cons hS
    obtain ⟨hr, hr2⟩ := hat i r h1
    have hn' : S.length < n := by simp at hn; omega
    have hc : ¬ nI L.length ≤ nI i := fun h => by have := (nu_le (by omega) (by omega)).mp h; omega
    have hv : vp_in (nI i) 24 := nu_in (by omega) (by omega)
    have hvr : vp_in (nI r) 200 := nu_in hr2 (by omega)
    have nx : ∀ b', ne_E (nf_E g.1 w s n0 gr) (nb_E g.1 w s n0 gr) (r :: S) b = ne_E (nf_E g.1 w s n0 gr) (nb_E g.1 w s n0 gr) S b' → (∀ q, b' = some q → q < 200) → wl_R_neighbourOf_6 Q n g w s n0 gr (en b') (nI i + 1) := by
      intro b' e hb'
      rw [nI_1]
      exact ih (i + 1) n b' h2 (by omega) hn' hb' (e ▸ hq)
    have no : ¬ (g.1 7 r = w ∧ g.1 12 r = gr ∧ (¬ 4 ≤ g.1 10 r ∧ ¬ 16 < g.1 9 r + n0)) → wl_R_neighbourOf_6 Q n g w s n0 gr (en b) (nI i + 1) := by
      intro z
      refine nx b ?_ hb
      have e1 : nf_E g.1 w s n0 gr r = false := bb_f.mpr (fun y => z ⟨y.1, y.2.1, y.2.2.1⟩)
      have e2 : nb_E g.1 w s n0 gr r = false := bb_f.mpr (fun y => z ⟨y.1, y.2.1, y.2.2.1⟩)
      simp [ne_E, List.find?, e1, e2]
    have hb1 : ∀ q, some r = some q → q < 200 := fun q e => by cases e; exact hr2
    rw [wl_R_neighbourOf_6, hc0, nu_cl (i := i) (by omega), hr, nu_cl (i := r) (by omega)]
    refine ⟨fun h4 => absurd h4 hc, fun _ => ⟨hv, hvr, fun h5 => no (fun z => h5 z.1), fun h5 => ⟨hvr, fun h6 => no (fun z => h6 z.2.1), fun h6 => pe_hasRoom hr2 (fun h7 => ⟨fun h8 => absurd h8 (by decide), fun _ => pe_end hr2 ?_⟩) (fun h7 => ⟨fun _ => no (fun z => h7 z.2.2), fun h8 => absurd rfl h8⟩)⟩⟩⟩
    have e2 : g.1 8 r = s + n0 → nb_E g.1 w s n0 gr r = true := fun z => bb_t.mpr ⟨h5, h6, h7, z⟩
    refine ⟨fun h8 => ?_, fun h8 => ?_⟩
    · have e1 : nf_E g.1 w s n0 gr r = false := bb_f.mpr (fun y => h8 y.2.2.2)
      cases b with
      | none =>
        refine ⟨fun h9 => absurd rfl h9, fun _ => ⟨hvr, fun h9 => ?_, fun h9 => ?_⟩⟩
        · have e3 : nb_E g.1 w s n0 gr r = false := bb_f.mpr (fun y => h9 y.2.2.2)
          exact nx none (by simp [ne_E, List.find?, e1, e3]) hb
        · refine nx (some r) ?_ hb1
          simp [ne_E, List.find?, e1, e2 h9]
      | some q =>
        refine ⟨fun _ => nx (some q) (by simp [ne_E, List.find?, e1]) hb, fun h9 => absurd h9 (nu_m1 (by have := hb q rfl; omega))⟩
    · have e1 : nf_E g.1 w s n0 gr r = true := bb_t.mpr ⟨h5, h6, h7, h8⟩
      have e3 : ne_E (nf_E g.1 w s n0 gr) (nb_E g.1 w s n0 gr) (r :: S) b = some r := by simp [ne_E, List.find?, e1]
      rw [e3] at hq
      exact hq
theorem pe_neighbourOf {g : St} {L : List Nat} {w s n0 gr : Int32} {Q : Int32 → St → Prop} (hL : qu_E g L) (hq : Q (en (ne_E (nf_E g.1 w s n0 gr) (nb_E g.1 w s n0 gr) L none)) g) : wp_R_neighbourOf g w s n0 gr Q :=
  ⟨L.length + 1, pe_neighbourOf_loop hL L 0 (L.length + 1) none rfl (by omega) (by omega) (fun q e => by cases e) hq⟩
-- how many requests of a way wait, are ready
noncomputable def cw_E (G : Nat → Nat → Int32) (w : Int32) (b : Int32) (r : Nat) : Int32 := if bb (G 7 r = w) then b + 1 else b
noncomputable def cr_E (G : Nat → Nat → Int32) (w : Int32) (b : Int32) (r : Nat) : Int32 := if bb (¬ G 13 r = 0 ∧ G 7 r = w) then b + 1 else b
theorem pe_waiting_loop {g : St} {L : List Nat} {w : Int32} {Q : Int32 → St → Prop} (hL : qu_E g L) : ∀ (S : List Nat) (i n : Nat) (b : Int32), L.drop i = S → i ≤ L.length → S.length < n → Q (S.foldl (cw_E g.1 w) b) g → wl_E_waiting_14 Q n g w b (nI i) := by
  obtain ⟨hc0, hl24, hat⟩ := hL
  intro S
  induction S with
  | nil =>
    intro i n b hS hi hn hq
    obtain ⟨n, rfl⟩ : ∃ m, n = m + 1 := ⟨n - 1, by simp at hn; omega⟩
    have h1 := dr_nil hS
    rw [wl_E_waiting_14, hc0]
    exact ⟨fun _ => hq, fun hc => absurd ((nu_le (by omega) (by omega)).mpr (by omega)) hc⟩
  | cons r S ih =>
    intro i n b hS hi hn hq
    obtain ⟨n, rfl⟩ : ∃ m, n = m + 1 := ⟨n - 1, by simp at hn; omega⟩
    obtain ⟨h1, h2, h3⟩ := dr_cons hS
    obtain ⟨hr, hr2⟩ := hat i r h1
    have hn' : S.length < n := by simp at hn; omega
    have hc : ¬ nI L.length ≤ nI i := fun h => by have := (nu_le (by omega) (by omega)).mp h; omega
    have hv : vp_in (nI i) 24 := nu_in (by omega) (by omega)
    have hvr : vp_in (nI r) 200 := nu_in hr2 (by omega)
    have hq : Q (S.foldl (cw_E g.1 w) (cw_E g.1 w b r)) g := hq
    have nx : ∀ b', cw_E g.1 w b r = b' → wl_E_waiting_14 Q n g w b' (nI i + 1) := by
      intro b' e
      rw [nI_1]
      exact ih (i + 1) n b' h2 (by omega) hn' (e ▸ hq)
    rw [wl_E_waiting_14, hc0, nu_cl (i := i) (by omega), hr, nu_cl (i := r) (by omega)]
    exact ⟨fun h4 => absurd h4 hc, fun _ => ⟨hv, hvr, fun h4 => nx _ (by unfold cw_E; rw [if_neg (fun h5 => h4 (bb_t.mp h5))]), fun h4 => nx _ (by unfold cw_E; rw [if_pos (bb_t.mpr h4)])⟩⟩
theorem pe_ready_loop {g : St} {L : List Nat} {w : Int32} {Q : Int32 → St → Prop} (hL : qu_E g L) : ∀ (S : List Nat) (i n : Nat) (b : Int32), L.drop i = S → i ≤ L.length → S.length < n → Q (S.foldl (cr_E g.1 w) b) g → wl_E_ready_18 Q n g w b (nI i) := by
  obtain ⟨hc0, hl24, hat⟩ := hL
  intro S
  induction S with
  | nil =>
    intro i n b hS hi hn hq
    obtain ⟨n, rfl⟩ : ∃ m, n = m + 1 := ⟨n - 1, by simp at hn; omega⟩
    have h1 := dr_nil hS
    rw [wl_E_ready_18, hc0]
    exact ⟨fun _ => hq, fun hc => absurd ((nu_le (by omega) (by omega)).mpr (by omega)) hc⟩
  | cons r S ih =>
    intro i n b hS hi hn hq
    obtain ⟨n, rfl⟩ : ∃ m, n = m + 1 := ⟨n - 1, by simp at hn; omega⟩
    obtain ⟨h1, h2, h3⟩ := dr_cons hS
    obtain ⟨hr, hr2⟩ := hat i r h1
    have hn' : S.length < n := by simp at hn; omega
    have hc : ¬ nI L.length ≤ nI i := fun h => by have := (nu_le (by omega) (by omega)).mp h; omega
    have hv : vp_in (nI i) 24 := nu_in (by omega) (by omega)
    have hq : Q (S.foldl (cr_E g.1 w) (cr_E g.1 w b r)) g := hq
    have nx : ∀ b', cr_E g.1 w b r = b' → wl_E_ready_18 Q n g w b' (nI i + 1) := by
      intro b' e
      rw [nI_1]
      exact ih (i + 1) n b' h2 (by omega) hn' (e ▸ hq)
    rw [wl_E_ready_18, hc0, nu_cl (i := i) (by omega), hr]
    exact ⟨fun h4 => absurd h4 hc, fun _ => ⟨hv, pe_isReady hr2 (fun h4 => ⟨fun h5 => absurd h5 (by decide), fun _ => nx _ (by unfold cr_E; rw [if_pos (bb_t.mpr h4)])⟩) (fun h4 => ⟨fun _ => nx _ (by unfold cr_E; rw [if_neg (fun h5 => h4 (bb_t.mp h5))]), fun h5 => absurd rfl h5⟩)⟩⟩
-- bits: what the claims hold
def bt (z : Int64) (x : Nat) : Bool := z.toBitVec.getLsbD x
theorem bt_or (a b : Int64) (x : Nat) : bt (a ||| b) x = (bt a x || bt b x) := by simp [bt]
theorem bt_and (a b : Int64) (x : Nat) : bt (a &&& b) x = (bt a x && bt b x) := by simp [bt]
theorem bt_0 (x : Nat) : bt 0 x = false := by simp [bt]
theorem bt_ne {a : Int64} : ¬ a = 0 ↔ ∃ x, x < 64 ∧ bt a x = true := by
  constructor
  · intro h
    refine Classical.byContradiction (fun hn => h ?_)
    refine Int64.toBitVec_inj.mp (BitVec.eq_of_getLsbD_eq (fun i hi => ?_))
    cases hb : a.toBitVec.getLsbD i with
    | false => simp
    | true => exact absurd ⟨i, hi, hb⟩ hn
  · intro ⟨x, _, h⟩ e
    rw [e, bt_0] at h
    cases h
theorem lg_cmp0 (a : Int64) : lg_cmp a 0 = 0 ↔ a = 0 := by
  unfold lg_cmp
  constructor
  · intro h
    split at h
    · exact absurd h (by decide)
    · split at h
      · assumption
      · exact absurd h (by decide)
  · intro h
    subst h
    simp
/-- the bits of a part's sectors -/
theorem mk_bt : ∀ n : Nat, n < 9 → ∀ s : Nat, s < 65 → 1 ≤ n → s + n ≤ 64 → ∀ x : Nat, x < 64 → bt (mk_ (nI s) (nI n)) x = decide (s ≤ x ∧ x < s + n) := by decide +kernel
-- frames: what a step of markReady may change
def f13 (g u : St) : Prop := (∀ k, ¬ k = 13 → u.1 k = g.1 k) ∧ u.2.1 = g.2.1
theorem f13_rf (g : St) : f13 g g := ⟨fun _ _ => rfl, rfl⟩
theorem f13_A {g u : St} (h : f13 g u) (j : Nat) (x : Int32) : f13 g (sA u 13 j x) := ⟨fun k hk => by rw [← h.1 k hk]; show va_up u.1 13 _ k = _; simp [va_up, hk], h.2⟩
theorem f13_L {g u : St} (h : f13 g u) (k : Nat) (x : Int64) : f13 g (sL u k x) := h
theorem sA_13 (u : St) (j : Nat) (x : Int32) : (sA u 13 j x).1 13 = upd (u.1 13) j x := by simp [sA, va_up]
theorem nb_1 : vp_nar .boolean 1 = 1 := by decide
theorem nb_0 : vp_nar .boolean 0 = 0 := by decide
