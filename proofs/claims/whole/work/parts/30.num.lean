-- numbers, choices, folds
theorem nu_in {i N : Nat} (h : i < N) (hN : N ≤ 1600) : vp_in (nI i) N := vp_in_nI h (by omega)
theorem nu_cl {i : Nat} (h : i ≤ 1600) : (nI i).toNatClampNeg = i := nI_clamp (by omega)
theorem nu_le {a b : Nat} (ha : a ≤ 4000) (hb : b ≤ 4000) : nI a ≤ nI b ↔ a ≤ b := nI_leI (by omega) (by omega)
theorem nu_lt {a b : Nat} (ha : a ≤ 4000) (hb : b ≤ 4000) : nI a < nI b ↔ a < b := nI_ltI (by omega) (by omega)
theorem nu_eq {a b : Nat} (ha : a ≤ 4000) (hb : b ≤ 4000) : nI a = nI b ↔ a = b := nI_eq (by omega) (by omega)
theorem nu_neg {a : Nat} (ha : a ≤ 4000) : ¬ nI a < 0 := nI_pos (by omega)
theorem nu_m1 {a : Nat} (ha : a ≤ 4000) : ¬ nI a = -1 := by
  intro h
  have h1 := congrArg Int32.toInt h
  rw [nI_toInt (by omega)] at h1
  have h2 : (-1 : Int32).toInt = -1 := by decide
  rw [h2] at h1
  omega
noncomputable def bb (p : Prop) : Bool := @decide p (Classical.propDecidable p)
theorem bb_t {p : Prop} : bb p = true ↔ p := by unfold bb; exact @decide_eq_true_iff p (Classical.propDecidable p)
theorem bb_f {p : Prop} : bb p = false ↔ ¬ p := by
  cases h : bb p with
  | true => exact ⟨fun h2 => Bool.noConfusion h2, fun h2 => absurd (bb_t.mp h) h2⟩
  | false => exact ⟨fun _ h2 => Bool.noConfusion (h.symm.trans (bb_t.mpr h2)), fun _ => rfl⟩
theorem bb_iff {p q : Prop} (h : p ↔ q) : bb p = bb q := by rw [propext h]
-- an answer that may be none
def en (b : Option Nat) : Int32 := match b with
  | none => -1
  | some r => nI r
-- the least key among candidates, of equals the first
def bs (cand : Nat → Bool) (key : Nat → Int32) (b : Option Nat) (r : Nat) : Option Nat := match cand r with
  | false => b
  | true => match b with
    | none => some r
    | some q => if key q ≤ key r then some q else some r
theorem bs_no {cand : Nat → Bool} {key : Nat → Int32} {b : Option Nat} {r : Nat} (h : cand r = false) : bs cand key b r = b := by simp [bs, h]
theorem bs_first {cand : Nat → Bool} {key : Nat → Int32} {r : Nat} (h : cand r = true) : bs cand key none r = some r := by simp [bs, h]
theorem bs_keep {cand : Nat → Bool} {key : Nat → Int32} {q r : Nat} (h : key q ≤ key r) : bs cand key (some q) r = some q := by
  cases hc : cand r <;> simp [bs, hc, h]
theorem bs_take {cand : Nat → Bool} {key : Nat → Int32} {q r : Nat} (h : cand r = true) (hk : ¬ key q ≤ key r) : bs cand key (some q) r = some r := by simp [bs, h, hk]
/-- the fold's answer is one of the candidates, or the start -/
theorem bs_mem {cand : Nat → Bool} {key : Nat → Int32} (S : List Nat) : ∀ (b : Option Nat) (r : Nat), S.foldl (bs cand key) b = some r → (r ∈ S ∧ cand r = true) ∨ b = some r := by
  induction S with
  | nil => intro b r h; exact Or.inr h
  | cons x S ih =>
    intro b r h
    rcases ih _ r h with ⟨h1, h2⟩ | h1
    · exact Or.inl ⟨List.mem_cons_of_mem _ h1, h2⟩
    · cases hc : cand x with
      | false => rw [bs_no hc] at h1; exact Or.inr h1
      | true =>
        cases b with
        | none => rw [bs_first hc] at h1; cases h1; exact Or.inl ⟨List.mem_cons_self, hc⟩
        | some q =>
          by_cases hk : key q ≤ key x
          · rw [bs_keep hk] at h1; exact Or.inr h1
          · rw [bs_take hc hk] at h1; cases h1; exact Or.inl ⟨List.mem_cons_self, hc⟩
theorem bs_some {cand : Nat → Bool} {key : Nat → Int32} (S : List Nat) : ∀ (q : Nat), ∃ r, S.foldl (bs cand key) (some q) = some r := by
  induction S with
  | nil => intro q; exact ⟨q, rfl⟩
  | cons x S ih =>
    intro q
    show ∃ r, S.foldl (bs cand key) (bs cand key (some q) x) = some r
    by_cases hk : key q ≤ key x
    · rw [bs_keep hk]; exact ih q
    · cases hc : cand x with
      | false => rw [bs_no hc]; exact ih q
      | true => rw [bs_take hc hk]; exact ih x
theorem bs_none {cand : Nat → Bool} {key : Nat → Int32} (S : List Nat) : S.foldl (bs cand key) none = none ↔ ∀ r ∈ S, cand r = false := by
  induction S with
  | nil => exact ⟨fun _ r h => absurd h List.not_mem_nil, fun _ => rfl⟩
  | cons x S ih =>
    show S.foldl (bs cand key) (bs cand key none x) = none ↔ _
    cases hc : cand x with
    | false =>
      rw [bs_no hc, ih]
      exact ⟨fun h r hr => (List.mem_cons.mp hr).elim (fun e => e ▸ hc) (h r), fun h r hr => h r (List.mem_cons_of_mem _ hr)⟩
    | true =>
      rw [bs_first hc]
      obtain ⟨r, hr⟩ := bs_some (cand := cand) (key := key) S x
      rw [hr]
      exact ⟨fun h => (by cases h), fun h => absurd (h x List.mem_cons_self) (by rw [hc]; decide)⟩
/-- two folds whose candidates and keys agree on the list -/
theorem bs_cg1 {c1 c2 : Nat → Bool} {k1 k2 : Nat → Int32} {x : Nat} (hc : c1 x = c2 x) (hk : k1 x = k2 x) (b : Option Nat) (hb : ∀ q, b = some q → k1 q = k2 q) : bs c1 k1 b x = bs c2 k2 b x := by
  cases b with
  | none => unfold bs; rw [hc]
  | some q => unfold bs; rw [hc, hk]; dsimp only; rw [hb q rfl]
theorem bs_cg2 {c1 : Nat → Bool} {k1 k2 : Nat → Int32} {x : Nat} (hk : k1 x = k2 x) (b : Option Nat) (hb : ∀ q, b = some q → k1 q = k2 q) (q : Nat) (hq : bs c1 k1 b x = some q) : k1 q = k2 q := by
  cases h1 : c1 x with
  | false => exact hb q ((bs_no h1).symm.trans hq)
  | true =>
    cases b with
    | none =>
      have h2 := (bs_first (key := k1) h1).symm.trans hq
      injection h2 with h2
      exact h2 ▸ hk
    | some z =>
      by_cases hz : k1 z ≤ k1 x
      · exact hb q ((bs_keep hz).symm.trans hq)
      · have h2 := (bs_take h1 hz).symm.trans hq
        injection h2 with h2
        exact h2 ▸ hk
theorem bs_congr {c1 c2 : Nat → Bool} {k1 k2 : Nat → Int32} (S : List Nat) : ∀ (b : Option Nat), (∀ q, b = some q → k1 q = k2 q) → (∀ r ∈ S, c1 r = c2 r ∧ k1 r = k2 r) → S.foldl (bs c1 k1) b = S.foldl (bs c2 k2) b := by
  induction S with
  | nil => intro b _ _; exact (List.foldl_nil).trans (List.foldl_nil).symm
  | cons x S ih =>
    intro b hb hS
    have hx := hS x List.mem_cons_self
    rw [List.foldl_cons, List.foldl_cons, ← bs_cg1 hx.1 hx.2 b hb]
    exact ih _ (bs_cg2 hx.2 b hb) (fun r hr => hS r (List.mem_cons_of_mem _ hr))
/-- candidates that a filter leaves out are none -/
theorem bs_filter {cand f : Nat → Bool} {key : Nat → Int32} (S : List Nat) : ∀ (b : Option Nat), (∀ r ∈ S, f r = false → cand r = false) → (S.filter f).foldl (bs cand key) b = S.foldl (bs cand key) b := by
  induction S with
  | nil => intro b _; rfl
  | cons x S ih =>
    intro b hS
    have hS' : ∀ r ∈ S, f r = false → cand r = false := fun r hr => hS r (List.mem_cons_of_mem _ hr)
    cases hf : f x with
    | false =>
      rw [List.filter_cons_of_neg (by simp [hf])]
      show _ = S.foldl (bs cand key) (bs cand key b x)
      rw [bs_no (hS x List.mem_cons_self hf)]
      exact ih b hS'
    | true =>
      rw [List.filter_cons_of_pos (by simp [hf])]
      exact ih _ hS'
/-- a walk along a list by its places -/
theorem dr_cons {L : List Nat} {i r : Nat} {S : List Nat} (h : L.drop i = r :: S) : L[i]? = some r ∧ L.drop (i + 1) = S ∧ i < L.length := by
  have h1 : L[i]? = some r := by
    have h2 : (L.drop i)[0]? = some r := by rw [h]; rfl
    rw [List.getElem?_drop] at h2
    simpa using h2
  refine ⟨h1, ?_, (List.getElem?_eq_some_iff.mp h1).1⟩
  have h3 : (L.drop i).drop 1 = S := by rw [h]; rfl
  rw [List.drop_drop] at h3
  exact h3
theorem dr_nil {L : List Nat} {i : Nat} (h : L.drop i = []) : L.length ≤ i := by
  have h1 := congrArg List.length h
  rw [List.length_drop] at h1
  simp at h1
  omega
theorem up_2 {α : Type} (f : Nat → α) (k : Nat) (v w : α) : va_up (va_up f k v) k w = va_up f k w := by
  funext j
  unfold va_up
  by_cases h : j = k
  · rw [if_pos h, if_pos h]
  · rw [if_neg h, if_neg h, if_neg h]
