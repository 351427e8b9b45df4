-- what holds between calls: of the reference alone
def IM (A : Nat → Nat → Int32) (P B : Nat) : Prop :=
  (∀ p, p < P → (A 1 p = 0 ∨ A 1 p = 1) ∧ (A 6 p = 1 ∨ A 6 p = 2) ∧ (∃ s n, A 2 p = nI s ∧ A 3 p = nI n ∧ 1 ≤ n ∧ n ≤ 8 ∧ s + n ≤ 64) ∧ (∃ z, z ≤ p ∧ A 5 p = nI z ∧ A 5 z = nI z ∧ A 6 z = A 6 p)) ∧
  (∀ p q, p < P → q < p → A 6 p = 1 → ¬ A 5 p = nI p → A 6 q = 1 → ¬ cf_M A p q) ∧
  (∀ r, r < P → A 5 r = nI r → ∃ b, b ≤ B ∧ A 9 r = nI b) ∧
  (∀ r r', r ≤ r' → r' < P → A 5 r = nI r → A 5 r' = nI r' → A 9 r ≤ A 9 r')
theorem IM_req {A : Nat → Nat → Int32} {P B : Nat} (h : IM A P B) : ∀ q, q < P → ∃ z, z ≤ q ∧ A 5 q = nI z := fun q hq => by
  obtain ⟨_, _, _, z, h1, h2, _⟩ := h.1 q hq
  exact ⟨z, h1, h2⟩
/-- ready, said shortly -/
def rs_M (A : Nat → Nat → Int32) (P r : Nat) : Prop := wa_M A r ∧ (∀ q, q < P → wa_M A q → A 9 r ≤ A 9 q) ∧ ∀ q, q < r → A 6 q = 1 → ¬ cf_M A r q
theorem rd_iff {A : Nat → Nat → Int32} {P B r : Nat} (h : IM A P B) (hPl : P ≤ 200) (hr : r < P) : rd_M A P r ↔ rs_M A P r := by
  constructor
  · intro ⟨hw, hok⟩
    refine ⟨hw, fun q hq hwq => ?_, fun q hq hq6 => ?_⟩
    · by_cases e : q = r
      · subst e; exact Int32.le_refl _
      · have h1 := (hok q hq hwq.1 (fun z => e ((nu_eq (by omega) (by omega)).mp (hwq.2.symm.trans z)))).1
        rw [hwq.2, nu_cl (by omega)] at h1
        exact h1
    · obtain ⟨z, h1, h2⟩ := IM_req h q (by omega)
      exact (hok q (by omega) hq6 (fun y => by have := (nu_eq (by omega) (by omega)).mp (h2.symm.trans y); omega)).2 r hq hr hw.2
  · intro ⟨hw, hg, hc⟩
    refine ⟨hw, fun q hq hq6 hne => ?_⟩
    obtain ⟨_, _, _, z, h1, h2, h3, h4⟩ := h.1 q hq
    refine ⟨?_, fun p hqp hpP hp5 => ?_⟩
    · rw [h2, nu_cl (by omega)]
      exact hg z (by omega) ⟨h4.trans hq6, h3⟩
    · by_cases e : p = r
      · subst e; exact hc q hqp hq6
      · obtain ⟨_, _, _, y, g1, g2, g3, g4⟩ := h.1 p hpP
        have ey : y = r := (nu_eq (by omega) (by omega)).mp (g2.symm.trans hp5)
        subst ey
        exact h.2.1 p q hpP hqp (g4.symm.trans hw.1) (fun y => e ((nu_eq (by omega) (by omega)).mp (y.symm.trans hp5))) hq6
-- sectors in common
theorem iv_bt {s1 n1 s2 n2 : Nat} (h1 : 1 ≤ n1 ∧ n1 ≤ 8 ∧ s1 + n1 ≤ 64) (h2 : 1 ≤ n2 ∧ n2 ≤ 8 ∧ s2 + n2 ≤ 64) : (∃ x, x < 64 ∧ bt (mk_ (nI s1) (nI n1)) x = true ∧ bt (mk_ (nI s2) (nI n2)) x = true) ↔ ¬ nI s2 + nI n2 ≤ nI s1 ∧ ¬ nI s1 + nI n1 ≤ nI s2 := by
  rw [nI_add, nI_add, nu_le (by omega) (by omega), nu_le (by omega) (by omega)]
  constructor
  · intro ⟨x, hx, ha, hb⟩
    rw [mk_bt n1 (by omega) s1 (by omega) h1.1 h1.2.2 x hx, decide_eq_true_iff] at ha
    rw [mk_bt n2 (by omega) s2 (by omega) h2.1 h2.2.2 x hx, decide_eq_true_iff] at hb
    omega
  · intro h
    refine ⟨if s1 ≤ s2 then s2 else s1, ?_, ?_, ?_⟩
    · split <;> omega
    · rw [mk_bt n1 (by omega) s1 (by omega) h1.1 h1.2.2 _ (by split <;> omega), decide_eq_true_iff]
      split <;> omega
    · rw [mk_bt n2 (by omega) s2 (by omega) h2.1 h2.2.2 _ (by split <;> omega), decide_eq_true_iff]
      split <;> omega
-- the start of a request is not below 0
theorem st_fold_pos {A : Nat → Nat → Int32} {r : Int32} (S : List Nat) (hS : ∀ p, p ∈ S → ¬ A 2 p < 0) : ∀ b : Int32, ¬ b < 0 → ¬ S.foldl (st_S A r) b < 0 := by
  induction S with
  | nil => intro b hb; exact hb
  | cons x S ih =>
    intro b hb
    refine ih (fun p hp => hS p (List.mem_cons_of_mem _ hp)) _ ?_
    unfold st_S
    split
    · split
      · exact hb
      · exact hS x List.mem_cons_self
    · exact hb
theorem st_pos {A : Nat → Nat → Int32} {P B : Nat} (h : IM A P B) {r : Int32} : ¬ st_F A r P < 0 := by
  refine st_fold_pos _ (fun p hp => ?_) 64 (by decide)
  have hp2 : p < P := by
    rw [List.mem_range'_1] at hp
    omega
  obtain ⟨_, _, ⟨s, n, h1, _⟩, _⟩ := h.1 p hp2
  rw [h1]
  exact nu_neg (by omega)
-- counting
def ct (c : Nat → Bool) (b : Int32) (r : Nat) : Int32 := if c r then b + 1 else b
theorem ct_congr {c1 c2 : Nat → Bool} (S : List Nat) : ∀ b : Int32, (∀ r, r ∈ S → c1 r = c2 r) → S.foldl (ct c1) b = S.foldl (ct c2) b := by
  induction S with
  | nil => intro b _; rfl
  | cons x S ih =>
    intro b h
    show S.foldl (ct c1) (ct c1 b x) = S.foldl (ct c2) (ct c2 b x)
    have e : ct c1 b x = ct c2 b x := by unfold ct; rw [h x List.mem_cons_self]
    rw [e]
    exact ih _ (fun r hr => h r (List.mem_cons_of_mem _ hr))
theorem ct_filter {c f : Nat → Bool} (S : List Nat) : ∀ b : Int32, (∀ r, r ∈ S → f r = false → c r = false) → (S.filter f).foldl (ct c) b = S.foldl (ct c) b := by
  induction S with
  | nil => intro b _; rfl
  | cons x S ih =>
    intro b h
    have h' : ∀ r, r ∈ S → f r = false → c r = false := fun r hr => h r (List.mem_cons_of_mem _ hr)
    cases hf : f x with
    | false =>
      rw [List.filter_cons_of_neg (by simp [hf])]
      show _ = S.foldl (ct c) (ct c b x)
      have e : ct c b x = b := by unfold ct; rw [h x List.mem_cons_self hf]; rfl
      rw [e]
      exact ih b h'
    | true =>
      rw [List.filter_cons_of_pos (by simp [hf])]
      exact ih _ h'
theorem ct_nat {c : Nat → Bool} (S : List Nat) : ∀ b : Nat, S.foldl (ct c) (nI b) = nI (b + S.countP c) := by
  induction S with
  | nil => intro b; simp
  | cons x S ih =>
    intro b
    show S.foldl (ct c) (ct c (nI b) x) = _
    cases hc : c x with
    | false =>
      have e : ct c (nI b) x = nI b := by unfold ct; rw [hc]; rfl
      rw [e, ih, List.countP_cons_of_neg (by simp [hc])]
    | true =>
      have e : ct c (nI b) x = nI (b + 1) := by unfold ct; rw [hc]; exact nI_1 b
      rw [e, ih, List.countP_cons_of_pos (by simp [hc])]
      congr 1
      omega
/-- of those that wait, each has one of two ways -/
theorem ct_two {f a b : Nat → Bool} (S : List Nat) (h : ∀ r, r ∈ S → (f r = false → a r = false ∧ b r = false) ∧ (f r = true → (a r = true ∧ b r = false) ∨ (a r = false ∧ b r = true))) : S.countP a + S.countP b = (S.filter f).length := by
  induction S with
  | nil => rfl
  | cons x S ih =>
    have ih := ih (fun r hr => h r (List.mem_cons_of_mem _ hr))
    obtain ⟨h0, h1⟩ := h x List.mem_cons_self
    cases hf : f x with
    | false =>
      rw [List.countP_cons_of_neg (by simp [(h0 hf).1]), List.countP_cons_of_neg (by simp [(h0 hf).2]), List.filter_cons_of_neg (by simp [hf])]
      exact ih
    | true =>
      rw [List.filter_cons_of_pos (by simp [hf]), List.length_cons]
      rcases h1 hf with ⟨h2, h3⟩ | ⟨h2, h3⟩
      · rw [List.countP_cons_of_pos (by simp [h2]), List.countP_cons_of_neg (by simp [h3])]
        omega
      · rw [List.countP_cons_of_neg (by simp [h2]), List.countP_cons_of_pos (by simp [h3])]
        omega
-- the two sides
noncomputable def qL (A : Nat → Nat → Int32) (P : Nat) : List Nat := (List.range' 0 P).filter (fun r => bb (wa_M A r))
theorem qL_mem {A : Nat → Nat → Int32} {P r : Nat} : r ∈ qL A P ↔ r < P ∧ wa_M A r := by
  unfold qL
  rw [List.mem_filter, List.mem_range'_1, bb_t]
  constructor
  · intro h; exact ⟨by omega, h.2⟩
  · intro h; exact ⟨by omega, h.2⟩
/-- disk, data, and what is done -/
def DR (G A : Nat → Nat → Int32) (P : Nat) : Prop :=
  (∀ x, x < 64 → G 0 x = A 0 x) ∧ (∀ p, p < P → (G 5 p = 0 ↔ A 6 p = 1)) ∧
  (∀ p n i, p < P → A 3 p = nI n → n ≤ 8 → i < n → (A 6 p = 1 → A 1 p = 1 → G 6 (8 * p + i) = A 4 p + nI i) ∧ (¬ A 6 p = 1 → A 1 p = 0 → G 6 (8 * p + i) = A 7 (8 * p + i))) ∧
  (∀ p, P ≤ p → G 5 p = 0)
/-- the parts and the requests that wait -/
def PR (G A : Nat → Nat → Int32) (P : Nat) : Prop :=
  (∀ p, p < P → G 1 p = A 1 p ∧ G 2 p = A 2 p ∧ G 3 p = A 3 p ∧ G 4 p = A 5 p) ∧
  (∀ r, r < P → wa_M A r → G 7 r = A 1 r ∧ G 8 r = st_F A (nI r) P ∧ G 9 r = ln_F A (nI r) P ∧ G 10 r = mb_F A (nI r) P ∧ G 11 r = A 8 r ∧ G 12 r = A 9 r)
/-- the single numbers -/
def NR (v w : Nat → Int32) (A : Nat → Nat → Int32) : Prop :=
  v 2 = w 4 ∧ v 3 = w 5 ∧ v 4 = w 6 ∧ v 5 = A 10 0 ∧ v 6 = A 10 1 ∧ v 7 = w 1 ∧ v 8 = w 2 ∧ v 9 = w 3 ∧ v 10 = w 7
def Rel (k : Nat) (g h : St) : Prop := ∃ P B : Nat, P ≤ 200 ∧ B ≤ k ∧ h.2.1 0 = nI P ∧ g.2.1 0 = nI P ∧ h.2.1 1 = nI B ∧ IM h.1 P B ∧ PR g.1 h.1 P ∧ DR g.1 h.1 P ∧ NR g.2.1 h.2.1 h.1 ∧ qu_E g (qL h.1 P)
theorem Rel_mono {k : Nat} {g h : St} (hR : Rel k g h) : Rel (k + 1) g h := by
  obtain ⟨P, B, h1, h2, h3⟩ := hR
  exact ⟨P, B, h1, by omega, h3⟩
/-- the claims' conflict is the reference's -/
theorem ce_iff {G A : Nat → Nat → Int32} {P B p q : Nat} (hI : IM A P B) (hp : PR G A P) (h1 : p < P) (h2 : q < P) : ce_E G p q ↔ cf_M A p q := by
  obtain ⟨_, _, ⟨s1, n1, a1, a2, a3⟩, _⟩ := hI.1 p h1
  obtain ⟨_, _, ⟨s2, n2, b1, b2, b3⟩, _⟩ := hI.1 q h2
  obtain ⟨c1, c2, c3, _⟩ := hp.1 p h1
  obtain ⟨d1, d2, d3, _⟩ := hp.1 q h2
  unfold ce_E cf_M mq
  rw [c1, c2, c3, d1, d2, d3, a1, a2, b1, b2, iv_bt ⟨a3.1, a3.2.1, a3.2.2⟩ ⟨b3.1, b3.2.1, b3.2.2⟩]
/-- the first of the queue -/
theorem qL_first {A : Nat → Nat → Int32} {P l0 : Nat} (h : (qL A P)[0]? = some l0) : ∀ q, q < P → wa_M A q → l0 ≤ q := by
  intro q hq hw
  have hs : (qL A P).Pairwise (· < ·) := List.Pairwise.filter _ (List.pairwise_lt_range' ..)
  have hm : q ∈ qL A P := qL_mem.mpr ⟨hq, hw⟩
  cases hl : qL A P with
  | nil => rw [hl] at hm; cases hm
  | cons x S =>
    rw [hl] at h hm hs
    have e : x = l0 := Option.some.inj h
    subst e
    rcases List.mem_cons.mp hm with h1 | h1
    · omega
    · exact Nat.le_of_lt ((List.pairwise_cons.mp hs).1 q h1)
/-- what the component marks ready is what the reference calls ready -/
theorem oe_iff {G A : Nat → Nat → Int32} {P B l0 r : Nat} (hI : IM A P B) (hPl : P ≤ 200) (hp : PR G A P) (hd : DR G A P) (hl : (qL A P)[0]? = some l0) (hr : r ∈ qL A P) : oe_E G l0 r P ↔ rd_M A P r := by
  obtain ⟨hr1, hrw⟩ := qL_mem.mp hr
  have hlm : l0 ∈ qL A P := List.mem_of_getElem? hl
  obtain ⟨hl1, hlw⟩ := qL_mem.mp hlm
  rw [rd_iff hI hPl hr1]
  have eg : G 12 r = A 9 r := (hp.2 r hr1 hrw).2.2.2.2.2
  have el : G 12 l0 = A 9 l0 := (hp.2 l0 hl1 hlw).2.2.2.2.2
  unfold oe_E
  rw [eg, el]
  constructor
  · intro ⟨h1, h2⟩
    refine ⟨hrw, fun q hq hwq => ?_, fun q hq hq6 hc => ?_⟩
    · rw [h1]
      exact hI.2.2.2 l0 q (qL_first hl q hq hwq) hq hlw.2 hwq.2
    · exact h2 r hr1 ((hd.2.1 r hr1).mpr hrw.1) ((hp.1 r hr1).2.2.2.trans hrw.2) q hq ((hd.2.1 q (by omega)).mpr hq6) ((ce_iff hI hp hr1 (by omega)).mpr hc)
  · intro ⟨_, h2, h3⟩
    refine ⟨Int32.le_antisymm (h2 l0 hl1 hlw) (hI.2.2.2 l0 r (qL_first hl r hr1 hrw) hr1 hlw.2 hrw.2), fun p hpP hp5 hp4 q hqp hq5 hc => ?_⟩
    have hc := (ce_iff hI hp hpP (by omega)).mp hc
    have hq6 := (hd.2.1 q (by omega)).mp hq5
    have hp6 := (hd.2.1 p hpP).mp hp5
    have h5 : A 5 p = nI r := (hp.1 p hpP).2.2.2.symm.trans hp4
    by_cases e : p = r
    · subst e; exact h3 q hqp hq6 hc
    · exact hI.2.1 p q hpP hqp hp6 (fun y => e ((nu_eq (by omega) (by omega)).mp (y.symm.trans h5))) hq6 hc
/-- behind markReady: ready is ready -/
theorem mk_ready {G A U : Nat → Nat → Int32} {P B l0 : Nat} (hI : IM A P B) (hPl : P ≤ 200) (hp : PR G A P) (hd : DR G A P) (hl : qL A P = [] ∨ (qL A P)[0]? = some l0) (hv : ∀ r, r ∈ qL A P → iv_E G l0 U r P) : ∀ r, r ∈ qL A P → (¬ U 13 r = 0 ↔ rd_M A P r) := by
  intro r hr
  rcases hl with hl | hl
  · rw [hl] at hr; cases hr
  · rcases hv r hr with ⟨h1, h2⟩ | ⟨h1, h2⟩
    · rw [h1]
      exact ⟨fun _ => (oe_iff hI hPl hp hd hl hr).mp h2, fun _ => by decide⟩
    · rw [h1]
      exact ⟨fun h => absurd rfl h, fun h => absurd ((oe_iff hI hPl hp hd hl hr).mpr h) h2⟩
/-- the component's choice is the reference's -/
theorem sweep_eq {G A U : Nat → Nat → Int32} {P : Nat} {w low : Int32} (hp : PR G A P) (hU : ∀ k, ¬ k = 13 → U k = G k) (hr : ∀ r, r ∈ qL A P → (¬ U 13 r = 0 ↔ rd_M A P r)) : (qL A P).foldl (bs (cs_E U w low) (U 8)) none = (List.range' 0 P).foldl (bs (cs_M A P w low) (fun r => st_F A (nI r) P)) none := by
  have h1 : (qL A P).foldl (bs (cs_E U w low) (U 8)) none = (qL A P).foldl (bs (cs_M A P w low) (fun r => st_F A (nI r) P)) none := by
    refine bs_congr _ none (fun q e => by cases e) (fun r hm => ?_)
    obtain ⟨hr1, hrw⟩ := qL_mem.mp hm
    obtain ⟨a, b, _⟩ := hp.2 r hr1 hrw
    have e8 : U 8 r = st_F A (nI r) P := by rw [hU 8 (by decide)]; exact b
    have e7 : U 7 r = A 1 r := by rw [hU 7 (by decide)]; exact a
    refine ⟨?_, e8⟩
    unfold cs_E cs_M
    refine bb_iff ?_
    rw [e8, e7, hr r hm]
  rw [h1]
  refine bs_filter _ none (fun r _ hf => ?_)
  exact bb_f.mpr (fun z => (bb_f.mp hf) z.1.1)
theorem late_eq {G A U : Nat → Nat → Int32} {P : Nat} {w time : Int32} (hp : PR G A P) (hU : ∀ k, ¬ k = 13 → U k = G k) (hr : ∀ r, r ∈ qL A P → (¬ U 13 r = 0 ↔ rd_M A P r)) : (qL A P).foldl (bs (cl_E U w time) (U 11)) none = (List.range' 0 P).foldl (bs (cl_M A time P w) (A 8)) none := by
  have h1 : (qL A P).foldl (bs (cl_E U w time) (U 11)) none = (qL A P).foldl (bs (cl_M A time P w) (A 8)) none := by
    refine bs_congr _ none (fun q e => by cases e) (fun r hm => ?_)
    obtain ⟨hr1, hrw⟩ := qL_mem.mp hm
    obtain ⟨a, _, _, _, b, _⟩ := hp.2 r hr1 hrw
    have e8 : U 11 r = A 8 r := by rw [hU 11 (by decide)]; exact b
    have e7 : U 7 r = A 1 r := by rw [hU 7 (by decide)]; exact a
    refine ⟨?_, e8⟩
    unfold cl_E cl_M
    refine bb_iff ?_
    rw [e8, e7, hr r hm]
  rw [h1]
  refine bs_filter _ none (fun r _ hf => ?_)
  exact bb_f.mpr (fun z => (bb_f.mp hf) z.1.1)
-- arrays that nobody looks at here may change (10: the expiries)
theorem wa_ext {A A' : Nat → Nat → Int32} (h : ∀ j, j < 10 → A' j = A j) (r : Nat) : wa_M A' r ↔ wa_M A r := by
  unfold wa_M
  rw [h 6 (by decide), h 5 (by decide)]
theorem cf_ext {A A' : Nat → Nat → Int32} (h : ∀ j, j < 10 → A' j = A j) (p q : Nat) : cf_M A' p q ↔ cf_M A p q := by
  unfold cf_M
  rw [h 1 (by decide), h 2 (by decide), h 3 (by decide)]
theorem qL_ext {A A' : Nat → Nat → Int32} {P : Nat} (h : ∀ j, j < 10 → A' j = A j) : qL A' P = qL A P := by
  unfold qL
  congr 1
  funext r
  exact bb_iff (wa_ext h r)
theorem IM_ext {A A' : Nat → Nat → Int32} {P B : Nat} (hI : IM A P B) (h : ∀ j, j < 10 → A' j = A j) : IM A' P B := by
  unfold IM
  simp only [cf_ext h, h 1 (by decide), h 2 (by decide), h 3 (by decide), h 5 (by decide), h 6 (by decide), h 9 (by decide)]
  exact hI
theorem PR_ext {G A A' : Nat → Nat → Int32} {P : Nat} (hp : PR G A P) (h : ∀ j, j < 10 → A' j = A j) : PR G A' P := by
  have e1 : ∀ r n, st_F A' r n = st_F A r n := by
    intro r n
    unfold st_F
    congr 1
    funext b p
    unfold st_S
    rw [h 5 (by decide), h 2 (by decide)]
  have e2 : ∀ r n, ln_F A' r n = ln_F A r n := by
    intro r n
    unfold ln_F
    congr 1
    funext b p
    unfold ln_S
    rw [h 5 (by decide), h 3 (by decide)]
  have e3 : ∀ r n, mb_F A' r n = mb_F A r n := by
    intro r n
    unfold mb_F
    congr 1
    funext b p
    unfold mb_S
    rw [h 5 (by decide)]
  unfold PR
  simp only [wa_ext h, e1, e2, e3, h 1 (by decide), h 2 (by decide), h 3 (by decide), h 5 (by decide), h 8 (by decide), h 9 (by decide)]
  exact hp
theorem DR_ext {G A A' : Nat → Nat → Int32} {P : Nat} (hd : DR G A P) (h : ∀ j, j < 10 → A' j = A j) : DR G A' P := by
  unfold DR
  simp only [h 0 (by decide), h 1 (by decide), h 3 (by decide), h 4 (by decide), h 6 (by decide), h 7 (by decide)]
  exact hd
