-- read and write
theorem pe_isOnDisk {g : St} {s n : Int32} {Q : Int32 → St → Prop} (hT : ¬ n < 1 → ¬ 8 < n → ¬ s < 0 → ¬ 64 - n < s → Q 1 g) (hF : (n < 1 ∨ 8 < n ∨ s < 0 ∨ 64 - n < s) → Q 0 g) : wp_E_isOnDisk g s n Q := by
  unfold wp_E_isOnDisk
  exact ⟨fun a => hF (Or.inl a), fun a => ⟨fun b => hF (Or.inr (Or.inl b)), fun b => ⟨fun c => hF (Or.inr (Or.inr (Or.inl c))), fun c => ⟨fun d => hF (Or.inr (Or.inr (Or.inr d))), fun d => hT a b c d⟩⟩⟩⟩
theorem pm_come_bad {h : St} {w s n v : Int32} {Q : Int32 → St → Prop} (hz : n < 1 ∨ 8 < n ∨ s < 0 ∨ 64 - n < s) (hq : Q (-1) h) : wp_M_come h w s n v Q := by
  unfold wp_M_come
  exact ⟨fun _ => hq, fun a => ⟨fun _ => hq, fun b => ⟨fun _ => hq, fun c => ⟨fun d => absurd (hz.resolve_left a) (fun z => (z.resolve_left b).elim c (fun z => absurd d (Int32.not_le.mpr z))), fun _ => hq⟩⟩⟩⟩
theorem jo_le (A : Nat → Nat → Int32) (bar : Int32) (P : Nat) : jo_M A bar P ≤ P := by
  have hf : ∀ f r, (List.range' 0 P).find? f = some r → r ≤ P := by
    intro f r h
    have := List.mem_of_find?_eq_some h
    rw [List.mem_range'_1] at this
    omega
  unfold jo_M
  split
  · exact Nat.le_refl _
  · split
    · exact hf _ _ (by assumption)
    · split
      · exact hf _ _ (by assumption)
      · exact Nat.le_refl _
/-- the reference's arrays when joined is asked -/
def ca_M (A : Nat → Nat → Int32) (P : Nat) (w s n v : Int32) : Nat → Nat → Int32 := va_up (va_up (va_up (va_up A 1 (upd (A 1) P w)) 2 (upd (A 2) P s)) 3 (upd (A 3) P n)) 4 (upd (A 4) P v)
theorem pm_come {h : St} {P B : Nat} {w s n v : Int32} {Q : Int32 → St → Prop} (h0 : h.2.1 0 = nI P) (hP : P ≤ 200) (hI : IM h.1 P B) (h1 : ¬ n < 1) (h2 : ¬ 8 < n) (h3 : ¬ s < 0) (h4 : ¬ 64 - n < s) (hw : w = 0 ∨ w = 1)
    (hfull : (P = 200 ∨ nI (qL h.1 P).length = 24) → Q (-2) h)
    (hnew : P < 200 → ¬ nI (qL h.1 P).length = 24 → jo_M (ca_M h.1 P w s n v) (h.2.1 1) P = P → Q (nI P) (sA (sA (sA (sA (sI (ca_M h.1 P w s n v, h.2) 0 (nI (P + 1))) 5 P (nI P)) 6 P 1) 8 P (h.2.1 2 + h.1 10 w.toNatClampNeg)) 9 P (h.2.1 1)))
    (hjoin : P < 200 → ¬ nI (qL h.1 P).length = 24 → ∀ j, j < P → jo_M (ca_M h.1 P w s n v) (h.2.1 1) P = j → Q (nI P) (sA (sA (sI (ca_M h.1 P w s n v, h.2) 0 (nI (P + 1))) 5 P (nI j)) 6 P 1)) : wp_M_come h w s n v Q := by
  unfold wp_M_come
  refine ⟨fun a => absurd a h1, fun _ => ⟨fun a => absurd a h2, fun _ => ⟨fun a => absurd a h3, fun _ => ⟨fun _ => ⟨fun a => ?_, fun a => ?_⟩, fun a => absurd (Int32.not_lt.mp h4) a⟩⟩⟩⟩
  · rw [h0] at a
    exact hfull (Or.inl ((nu_eq (b := 200) (by omega) (by omega)).mp a))
  · have hP2 : P < 200 := by
      refine Classical.byContradiction (fun z => a ?_)
      have e : P = 200 := by omega
      subst e
      exact h0
    have hv : vp_in (nI P) 200 := nu_in hP2 (by omega)
    refine pm_wait2 (Q := fun r37 r42 u42 => ((¬ (r37 + r42) = 24 → (vp_in (u42.2.1 0) 200 ∧ (vp_in (u42.2.1 0) 200 ∧ (vp_in (u42.2.1 0) 200 ∧ (vp_in (u42.2.1 0) 200 ∧ wp_M_joined (sA (sA (sA (sA u42 1 (u42.2.1 0).toNatClampNeg w) 2 (u42.2.1 0).toNatClampNeg s) 3 (u42.2.1 0).toNatClampNeg n) 4 (u42.2.1 0).toNatClampNeg v) (u42.2.1 0) (fun r96 u96 => (vp_in (u42.2.1 0) 200 ∧ (vp_in (u42.2.1 0) 200 ∧ ((¬ r96 = (u42.2.1 0) → Q (u42.2.1 0) (sA (sA (sI u96 0 ((u96.2.1 0) + 1)) 5 (u42.2.1 0).toNatClampNeg r96) 6 (u42.2.1 0).toNatClampNeg 1)) ∧ (r96 = (u42.2.1 0) → (vp_in w 2 ∧ (vp_in (u42.2.1 0) 200 ∧ (vp_in (u42.2.1 0) 200 ∧ Q (u42.2.1 0) (sA (sA (sA (sA (sI u96 0 ((u96.2.1 0) + 1)) 5 (u42.2.1 0).toNatClampNeg r96) 6 (u42.2.1 0).toNatClampNeg 1) 8 (u42.2.1 0).toNatClampNeg (((sA (sA (sI u96 0 ((u96.2.1 0) + 1)) 5 (u42.2.1 0).toNatClampNeg r96) 6 (u42.2.1 0).toNatClampNeg 1).2.1 2) + ((sA (sA (sI u96 0 ((u96.2.1 0) + 1)) 5 (u42.2.1 0).toNatClampNeg r96) 6 (u42.2.1 0).toNatClampNeg 1).1 10 w.toNatClampNeg))) 9 (u42.2.1 0).toNatClampNeg ((sA (sA (sA (sI u96 0 ((u96.2.1 0) + 1)) 5 (u42.2.1 0).toNatClampNeg r96) 6 (u42.2.1 0).toNatClampNeg 1) 8 (u42.2.1 0).toNatClampNeg (((sA (sA (sI u96 0 ((u96.2.1 0) + 1)) 5 (u42.2.1 0).toNatClampNeg r96) 6 (u42.2.1 0).toNatClampNeg 1).2.1 2) + ((sA (sA (sI u96 0 ((u96.2.1 0) + 1)) 5 (u42.2.1 0).toNatClampNeg r96) 6 (u42.2.1 0).toNatClampNeg 1).1 10 w.toNatClampNeg))).2.1 1))))))))))))))) ∧ ((r37 + r42) = 24 → Q (-2) u42))) h0 hP hI (fun r37 r42 e => ?_)
    rw [e, h0, nu_cl (by omega)]
    refine ⟨fun b => ⟨hv, hv, hv, hv, ?_⟩, fun b => hfull (Or.inr b)⟩
    have es : sA (sA (sA (sA h 1 P w) 2 P s) 3 P n) 4 P v = (ca_M h.1 P w s n v, h.2) := rfl
    rw [es]
    refine pm_joined (h := (ca_M h.1 P w s n v, h.2)) h0 hP2 ⟨hv, hv, fun c => ?_, fun c => ?_⟩
    · have hj : jo_M (ca_M h.1 P w s n v) (h.2.1 1) P < P := by
        have hle := jo_le (ca_M h.1 P w s n v) (h.2.1 1) P
        refine Classical.byContradiction (fun z => c ?_)
        have e2 : jo_M (ca_M h.1 P w s n v) (h.2.1 1) P = P := by omega
        exact congrArg nI e2
      have := hjoin hP2 b _ hj rfl
      show Q (nI P) (sA (sA (sI (ca_M h.1 P w s n v, h.2) 0 (h.2.1 0 + 1)) 5 P (nI (jo_M (ca_M h.1 P w s n v) (h.2.1 1) P))) 6 P 1)
      rw [h0, nI_1]
      exact this
    · have hj : jo_M (ca_M h.1 P w s n v) (h.2.1 1) P = P := (nu_eq (by have := jo_le (ca_M h.1 P w s n v) (h.2.1 1) P; omega) (by omega)).mp c
      have hw2 : vp_in w 2 := by
        rcases hw with rfl | rfl
        · exact vp_in_nI (n := 0) (by decide) (by decide)
        · exact vp_in_nI (n := 1) (by decide) (by decide)
      refine ⟨hw2, hv, hv, ?_⟩
      have := hnew hP2 b hj
      have e3 : nI (jo_M (ca_M h.1 P w s n v) (h.2.1 1) P) = nI P := by rw [hj]
      show Q (nI P) (sA (sA (sA (sA (sI (ca_M h.1 P w s n v, h.2) 0 (h.2.1 0 + 1)) 5 P (nI (jo_M (ca_M h.1 P w s n v) (h.2.1 1) P))) 6 P 1) 8 P (h.2.1 2 + h.1 10 w.toNatClampNeg)) 9 P (h.2.1 1))
      rw [e3, h0, nI_1]
      exact this
-- the component's host
noncomputable def ho_E (G : Nat → Nat → Int32) (bar : Int32) (P : Nat) (L : List Nat) (w s n : Int32) : Option Nat := match bb (∃ q, q < P ∧ G 5 q = 0 ∧ (w = 1 ∨ G 1 q = 1) ∧ ∃ x, x < 64 ∧ bt (mk_ s n) x = true ∧ bt (mq G q) x = true) with
  | true => none
  | false => ne_E (nf_E G w s n bar) (nb_E G w s n bar) L none
theorem pe_hostFor {g : St} {P : Nat} {L : List Nat} {w s n : Int32} {Q : Int32 → St → Prop} (g0 : g.2.1 0 = nI P) (hP : P ≤ 200) (hL : qu_E g L) (hq : ∀ z : Nat → Int64, Q (en (ho_E g.1 (g.2.1 7) P L w s n)) (g.1, g.2.1, z)) : wp_E_hostFor g w s n Q := by
  unfold wp_E_hostFor
  refine pe_claimAllWaiting g0 hP (fun z hc => pe_sectorsFrom (pe_conflictWith (fun a => ?_) (fun a => ?_)))
  · have h1 := (cm_conf (wy := w) (m := mk_ s n) hc).mp a
    refine ⟨fun b => absurd b (by decide), fun _ => ?_⟩
    have h2 := hq z
    unfold ho_E at h2
    rw [bb_t.mpr h1] at h2
    exact h2
  · refine ⟨fun _ => ?_, fun b => absurd rfl b⟩
    have hL' : qu_E (g.1, g.2.1, z) L := hL
    refine pe_neighbourOf hL' ?_
    have h2 := hq z
    unfold ho_E at h2
    rw [bb_f.mpr (fun h1 => ((cm_conf (wy := w) (m := mk_ s n) hc).mpr h1) a)] at h2
    exact h2
/-- the component's host is the reference's -/
theorem ho_eq {G A : Nat → Nat → Int32} {P B : Nat} {w v bar : Int32} {s n : Nat} (hI : IM A P B) (hP : P < 200) (hp : PR G A P) (hd : DR G A P) (hs : 1 ≤ n ∧ n ≤ 8 ∧ s + n ≤ 64) : jo_M (ca_M A P w (nI s) (nI n) v) bar P = (match ho_E G bar P (qL A P) w (nI s) (nI n) with | some r => r | none => P) ∧ (∀ r, ho_E G bar P (qL A P) w (nI s) (nI n) = some r → r < P ∧ wa_M A r ∧ ∀ q, q < P → A 6 q = 1 → ¬ cf_M (ca_M A P w (nI s) (nI n) v) P q) := by
  -- the arrays that joined sees
  have c1 : ∀ p, p < P → (ca_M A P w (nI s) (nI n) v) 1 p = A 1 p ∧ (ca_M A P w (nI s) (nI n) v) 2 p = A 2 p ∧ (ca_M A P w (nI s) (nI n) v) 3 p = A 3 p := by
    intro p hp
    have hne : ¬ p = P := by omega
    refine ⟨?_, ?_, ?_⟩
    · show upd (A 1) P w p = _; unfold upd; rw [if_neg hne]
    · show upd (A 2) P (nI s) p = _; unfold upd; rw [if_neg hne]
    · show upd (A 3) P (nI n) p = _; unfold upd; rw [if_neg hne]
  have c2 : (ca_M A P w (nI s) (nI n) v) 1 P = w ∧ (ca_M A P w (nI s) (nI n) v) 2 P = nI s ∧ (ca_M A P w (nI s) (nI n) v) 3 P = nI n := by
    refine ⟨?_, ?_, ?_⟩
    · show upd (A 1) P w P = _; unfold upd; rw [if_pos rfl]
    · show upd (A 2) P (nI s) P = _; unfold upd; rw [if_pos rfl]
    · show upd (A 3) P (nI n) P = _; unfold upd; rw [if_pos rfl]
  have c5 : (ca_M A P w (nI s) (nI n) v) 5 = A 5 := rfl
  have c6 : (ca_M A P w (nI s) (nI n) v) 6 = A 6 := rfl
  have c9 : (ca_M A P w (nI s) (nI n) v) 9 = A 9 := rfl
  generalize ca_M A P w (nI s) (nI n) v = C at c1 c2 c5 c6 c9 ⊢
  have hwa : ∀ r, wa_M C r ↔ wa_M A r := fun r => by unfold wa_M; rw [c5, c6]
  have f1 : ∀ r : Int32, st_F C r P = st_F A r P := fun r => fold_lt (P := P) (fun b p hpP => by unfold st_S; rw [c5, (c1 p hpP).2.1]) P 0 64 (by omega)
  have f2 : ∀ r : Int32, ln_F C r P = ln_F A r P := fun r => fold_lt (P := P) (fun b p hpP => by unfold ln_S; rw [c5, (c1 p hpP).2.2]) P 0 0 (by omega)
  have f3 : ∀ r : Int32, mb_F C r P = mb_F A r P := fun r => fold_lt (P := P) (fun b p hpP => by unfold mb_S; rw [c5]) P 0 0 (by omega)
  have conf : (∃ q, q < P ∧ G 5 q = 0 ∧ (w = 1 ∨ G 1 q = 1) ∧ ∃ x, x < 64 ∧ bt (mk_ (nI s) (nI n)) x = true ∧ bt (mq G q) x = true) ↔ ∃ q, q < P ∧ C 6 q = 1 ∧ cf_M C P q := by
    have one : ∀ q, q < P → ((G 5 q = 0 ∧ (w = 1 ∨ G 1 q = 1) ∧ ∃ x, x < 64 ∧ bt (mk_ (nI s) (nI n)) x = true ∧ bt (mq G q) x = true) ↔ (C 6 q = 1 ∧ cf_M C P q)) := by
      intro q hq
      obtain ⟨_, _, ⟨s2, n2, b1, b2, b3⟩, _⟩ := hI.1 q hq
      obtain ⟨d1, d2, d3, _⟩ := hp.1 q hq
      obtain ⟨e1, e2, e3⟩ := c1 q hq
      unfold cf_M mq
      rw [c6, c2.1, c2.2.1, c2.2.2, e1, e2, e3, d1, d2, d3, b1, b2, iv_bt hs ⟨b3.1, b3.2.1, b3.2.2⟩, hd.2.1 q hq]
    constructor
    · intro ⟨q, hq, h⟩; exact ⟨q, hq, (one q hq).mp h⟩
    · intro ⟨q, hq, h⟩; exact ⟨q, hq, (one q hq).mpr h⟩
  have hj : ∀ side : Int32, ∀ f : Nat → Bool, (∀ r, r < P → wa_M A r → (f r = true ↔ (G 7 r = w ∧ G 12 r = bar ∧ (¬ 4 ≤ G 10 r ∧ ¬ 16 < G 9 r + nI n) ∧ ((side = 0 ∧ G 8 r + G 9 r = nI s) ∨ (¬ side = 0 ∧ G 8 r = nI s + nI n))))) → (qL A P).find? f = (List.range' 0 P).find? (jm_M C bar P side) := by
    intro side f hf
    refine find_filter _ (fun r hr => ?_)
    have hr2 : r < P := by
      rw [List.mem_range'_1] at hr
      omega
    obtain ⟨e1, e2, e3⟩ := c1 r hr2
    by_cases hw : wa_M A r
    · obtain ⟨q7, q8, q9, q10, q11, q12⟩ := hp.2 r hr2 hw
      rw [bb_t.mpr hw, Bool.true_and]
      have e : (f r = true) ↔ (jm_M C bar P side r = true) := by
        rw [hf r hr2 hw]
        unfold jm_M
        rw [bb_t, hwa, e1, c9, f1, f2, f3, c2.1, c2.2.1, c2.2.2, q7, q8, q9, q10, q12]
        constructor
        · intro ⟨a, b, c, d⟩; exact ⟨hw, a, b, c.1, c.2, d⟩
        · intro ⟨_, a, b, c1, c2, d⟩; exact ⟨a, b, ⟨c1, c2⟩, d⟩
      exact Bool.eq_iff_iff.mpr e
    · rw [bb_f.mpr hw, Bool.false_and]
      exact (bb_f.mpr (fun z => hw ((hwa r).mp z.1))).symm
  have j0 := hj 0 (nf_E G w (nI s) (nI n) bar) (fun r _ _ => by
    unfold nf_E
    rw [bb_t]
    exact ⟨fun ⟨a, b, c, d⟩ => ⟨a, b, c, Or.inl ⟨rfl, d⟩⟩, fun ⟨a, b, c, d⟩ => ⟨a, b, c, d.elim (fun z => z.2) (fun z => absurd rfl z.1)⟩⟩)
  have j1 := hj 1 (nb_E G w (nI s) (nI n) bar) (fun r _ _ => by
    unfold nb_E
    rw [bb_t]
    exact ⟨fun ⟨a, b, c, d⟩ => ⟨a, b, c, Or.inr ⟨by decide, d⟩⟩, fun ⟨a, b, c, d⟩ => ⟨a, b, c, d.elim (fun z => absurd z.1 (by decide)) (fun z => z.2)⟩⟩)
  have inL : ∀ f r, (qL A P).find? f = some r → r < P ∧ wa_M A r := fun f r h => qL_mem.mp (List.mem_of_find?_eq_some h)
  unfold jo_M ho_E
  rw [← bb_iff conf]
  cases hb : bb (∃ q, q < P ∧ G 5 q = 0 ∧ (w = 1 ∨ G 1 q = 1) ∧ ∃ x, x < 64 ∧ bt (mk_ (nI s) (nI n)) x = true ∧ bt (mq G q) x = true) with
  | true => exact ⟨rfl, fun r h => by cases h⟩
  | false =>
    have nc : ∀ q, q < P → A 6 q = 1 → ¬ cf_M C P q := fun q hq h6 h => (bb_f.mp hb) (conf.mpr ⟨q, hq, by rw [c6]; exact h6, h⟩)
    dsimp only
    unfold ne_E
    rw [← j0, ← j1]
    cases h0 : (qL A P).find? (nf_E G w (nI s) (nI n) bar) with
    | some r => exact ⟨rfl, fun r' h => by cases h; exact ⟨(inL _ _ h0).1, (inL _ _ h0).2, nc⟩⟩
    | none =>
      dsimp only
      cases h1 : (qL A P).find? (nb_E G w (nI s) (nI n) bar) with
      | some r => exact ⟨rfl, fun r' h => by cases h; exact ⟨(inL _ _ h1).1, (inL _ _ h1).2, nc⟩⟩
      | none => exact ⟨rfl, fun r h => by cases h⟩
