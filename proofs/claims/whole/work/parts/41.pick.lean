-- which request is dispatched
noncomputable def sw_M (A : Nat → Nat → Int32) (P : Nat) (w low : Int32) : Option Nat := (List.range' 0 P).foldl (bs (cs_M A P w low) (fun r => st_F A (nI r) P)) none
noncomputable def lt_M (A : Nat → Nat → Int32) (time : Int32) (P : Nat) (w : Int32) : Option Nat := (List.range' 0 P).foldl (bs (cl_M A time P w) (A 8)) none
noncomputable def fi_M (A : Nat → Nat → Int32) (time pos : Int32) (P : Nat) (w : Int32) : Option Nat := match lt_M A time P w with
  | some r => some r
  | none => match sw_M A P w pos with
    | some r => some r
    | none => sw_M A P w 0
def CW (A : Nat → Nat → Int32) (P : Nat) (w : Int32) : Prop := ∃ r, r < P ∧ rd_M A P r ∧ A 1 r = w
theorem sw_lt {A : Nat → Nat → Int32} {P : Nat} {w low : Int32} {r : Nat} (h : sw_M A P w low = some r) : r < P ∧ rd_M A P r := by
  rcases bs_mem _ none r h with ⟨h1, h2⟩ | h1
  · rw [List.mem_range'_1] at h1
    exact ⟨by omega, (bb_t.mp h2).1⟩
  · cases h1
theorem lt_lt {A : Nat → Nat → Int32} {P : Nat} {time w : Int32} {r : Nat} (h : lt_M A time P w = some r) : r < P ∧ rd_M A P r := by
  rcases bs_mem _ none r h with ⟨h1, h2⟩ | h1
  · rw [List.mem_range'_1] at h1
    exact ⟨by omega, (bb_t.mp h2).1⟩
  · cases h1
theorem fi_lt {A : Nat → Nat → Int32} {P : Nat} {time pos w : Int32} {r : Nat} (h : fi_M A time pos P w = some r) : r < P ∧ rd_M A P r := by
  unfold fi_M at h
  cases h1 : lt_M A time P w with
  | some x => rw [h1] at h; cases h; exact lt_lt h1
  | none =>
    rw [h1] at h
    dsimp only at h
    cases h2 : sw_M A P w pos with
    | some x => rw [h2] at h; cases h; exact sw_lt h2
    | none => rw [h2] at h; exact sw_lt h
theorem sw_0 {A : Nat → Nat → Int32} {P B : Nat} {w : Int32} (hI : IM A P B) : sw_M A P w 0 = none ↔ ¬ CW A P w := by
  unfold sw_M
  rw [bs_none]
  constructor
  · intro h ⟨r, hr, h1, h2⟩
    have := bb_f.mp (h r (by rw [List.mem_range'_1]; omega))
    exact this ⟨h1, h2, st_pos hI⟩
  · intro h r hr
    rw [List.mem_range'_1] at hr
    exact bb_f.mpr (fun z => h ⟨r, by omega, z.1, z.2.1⟩)
theorem fi_some {A : Nat → Nat → Int32} {P B : Nat} {time pos w : Int32} (hI : IM A P B) (h : CW A P w) : ∃ r, fi_M A time pos P w = some r := by
  unfold fi_M
  cases lt_M A time P w with
  | some x => exact ⟨x, rfl⟩
  | none =>
    dsimp only
    cases sw_M A P w pos with
    | some x => exact ⟨x, rfl⟩
    | none =>
      dsimp only
      cases h2 : sw_M A P w 0 with
      | some x => exact ⟨x, rfl⟩
      | none => exact absurd h ((sw_0 hI).mp h2)
-- the reference
theorem cr_pos {A : Nat → Nat → Int32} {P : Nat} {w : Int32} (hP : P ≤ 200) : (List.range' 0 P).foldl (cr_M A P w) 0 ≤ 0 ↔ ¬ CW A P w := by
  have h := ct_nat (c := fun r => bb (rd_M A P r ∧ A 1 r = w)) (List.range' 0 P) 0
  rw [Nat.zero_add] at h
  have h2 : (List.range' 0 P).foldl (cr_M A P w) 0 = nI ((List.range' 0 P).countP (fun r => bb (rd_M A P r ∧ A 1 r = w))) := h
  have hle : (List.range' 0 P).countP (fun r => bb (rd_M A P r ∧ A 1 r = w)) ≤ P := by
    have := List.countP_le_length (p := fun r => bb (rd_M A P r ∧ A 1 r = w)) (l := List.range' 0 P)
    rw [List.length_range'] at this
    exact this
  rw [h2]
  have e0 : (0 : Int32) = nI 0 := rfl
  rw [e0, nu_le (by omega) (by omega), Nat.le_zero, List.countP_eq_zero]
  constructor
  · intro h3 ⟨r, hr, h4, h5⟩
    exact h3 r (by rw [List.mem_range'_1]; omega) (bb_t.mpr ⟨h4, h5⟩)
  · intro h3 r hr h4
    rw [List.mem_range'_1] at hr
    exact h3 ⟨r, by omega, (bb_t.mp h4).1, (bb_t.mp h4).2⟩
theorem pm_first {h : St} {P B : Nat} {Q : Int32 → St → Prop} (h0 : h.2.1 0 = nI P) (hP : P ≤ 200) (hI : IM h.1 P B) (hq : Q (en (fi_M h.1 (h.2.1 2) (h.2.1 3) P (h.2.1 4))) (sI h 5 1)) : wb_M_fresh_73 Q h := by
  have hrq := IM_req hI
  have h0' : (sI h 5 1).2.1 0 = nI P := h0
  have b107 : ∀ o : Option Nat, (∀ r, o = some r → r < 200) → Q (en (match o with | some r => some r | none => sw_M h.1 P (h.2.1 4) 0)) (sI h 5 1) → wb_M_fresh_107 Q (sI h 5 1) (en o) := by
    intro o ho hq
    unfold wb_M_fresh_107
    cases o with
    | none => exact ⟨fun z => absurd z (by decide), fun _ => pm_sweep h0' hP hrq hq⟩
    | some r => exact ⟨fun _ => hq, fun z => absurd (Int32.not_lt.mp (nu_neg (a := r) (by have := ho r rfl; omega))) z⟩
  unfold wb_M_fresh_73
  refine pm_late h0' hP hrq ?_
  unfold fi_M at hq
  have el : (List.range' 0 P).foldl (bs (cl_M (sI h 5 1).1 ((sI h 5 1).2.1 2) P ((sI h 5 1).2.1 4)) ((sI h 5 1).1 8)) none = lt_M h.1 (h.2.1 2) P (h.2.1 4) := rfl
  rw [el]
  cases hl : lt_M h.1 (h.2.1 2) P (h.2.1 4) with
  | some r =>
    rw [hl] at hq
    have hr : r < 200 := by have := (lt_lt hl).1; omega
    exact ⟨fun _ => b107 (some r) (fun q e => by cases e; exact hr) hq, fun z => absurd (Int32.not_lt.mp (nu_neg (a := r) (by omega))) z⟩
  | none =>
    rw [hl] at hq
    refine ⟨fun z => absurd z (by decide), fun _ => pm_sweep h0' hP hrq ?_⟩
    have es : (List.range' 0 P).foldl (bs (cs_M (sI h 5 1).1 P ((sI h 5 1).2.1 4) ((sI h 5 1).2.1 3)) (fun r => st_F (sI h 5 1).1 (nI r) P)) none = sw_M h.1 P (h.2.1 4) (h.2.1 3) := rfl
    rw [es]
    refine b107 _ (fun r e => by have := (sw_lt e).1; omega) ?_
    exact hq
theorem pm_fresh {h : St} {P B : Nat} {Q : Int32 → St → Prop} (h0 : h.2.1 0 = nI P) (hP : P ≤ 200) (hI : IM h.1 P B)
    (hA : CW h.1 P 0 → (¬ CW h.1 P 1 ∨ ¬ 2 ≤ h.2.1 6) → Q (en (fi_M h.1 (h.2.1 2) (h.2.1 3) P 0)) (sI (sI (sI h 4 0) 6 (if bb (CW h.1 P 1) then h.2.1 6 + 1 else h.2.1 6)) 5 1))
    (hB : (¬ CW h.1 P 0 ∨ (CW h.1 P 1 ∧ 2 ≤ h.2.1 6)) → Q (en (fi_M h.1 (h.2.1 2) (h.2.1 3) P 1)) (sI (sI (sI h 4 1) 6 0) 5 1)) : wp_M_fresh h Q := by
  have hrq := IM_req hI
  have b63 : (¬ CW h.1 P 0 ∨ (CW h.1 P 1 ∧ 2 ≤ h.2.1 6)) → wb_M_fresh_63 Q h := by
    intro hc
    unfold wb_M_fresh_63
    exact pm_first (h := sI (sI h 4 1) 6 0) h0 hP hI (hB hc)
  have b34 : ∀ x : Int32, (x = 0 ↔ ¬ CW h.1 P 1) → CW h.1 P 0 → (¬ CW h.1 P 1 ∨ ¬ 2 ≤ h.2.1 6) → wb_M_fresh_34 Q h x := by
    intro x hx h1 h2
    have hq := hA h1 h2
    unfold wb_M_fresh_34
    refine ⟨fun z => ?_, fun z => ?_⟩
    · rw [if_neg (by rw [bb_f.mpr (hx.mp z)]; decide)] at hq
      exact pm_first (h := sI (sI h 4 0) 6 (h.2.1 6)) h0 hP hI hq
    · have hc1 : CW h.1 P 1 := Classical.byContradiction (fun y => z (hx.mpr y))
      rw [if_pos (bb_t.mpr hc1)] at hq
      exact pm_first (h := sI (sI h 4 0) 6 (h.2.1 6 + 1)) h0 hP hI hq
  have b13 : ∀ x : Int32, (x = 0 ↔ ¬ CW h.1 P 1) → wb_M_fresh_13 Q h x := by
    intro x hx
    unfold wb_M_fresh_13
    refine pm_ready h0 hP hrq (fun z => absurd z (by decide)) (fun _ _ => ⟨fun z => b63 (Or.inl ((cr_pos hP).mp z)), fun z => ?_⟩)
    have hc0 : CW h.1 P 0 := Classical.byContradiction (fun y => z ((cr_pos hP).mpr y))
    refine ⟨fun y => b34 x hx hc0 (Or.inl (hx.mp y)), fun y => ⟨fun v => b63 (Or.inr ⟨Classical.byContradiction (fun u => y (hx.mpr u)), v⟩), fun v => b34 x hx hc0 (Or.inr v)⟩⟩
  unfold wp_M_fresh
  refine pm_ready h0 hP hrq (fun z => absurd z (by decide)) (fun _ _ => ⟨fun z => b13 0 ⟨fun _ => (cr_pos hP).mp z, fun _ => rfl⟩, fun z => b13 1 ⟨fun y => absurd y (by decide), fun y => absurd ((cr_pos hP).mpr y) z⟩⟩)
theorem pm_dispatch {h : St} {P B : Nat} {Q : Int32 → St → Prop} (h0 : h.2.1 0 = nI P) (hP : P ≤ 200) (hI : IM h.1 P B)
    (hE : qL h.1 P = [] → Q 0 h)
    (hG : ¬ qL h.1 P = [] → ¬ h.2.1 5 ≤ 0 → ¬ 4 ≤ h.2.1 5 → ∀ r, sw_M h.1 P (h.2.1 4) (h.2.1 3) = some r → wb_M_dispatch_70 Q (sI h 5 (h.2.1 5 + 1)) (nI r))
    (hF : ¬ qL h.1 P = [] → (h.2.1 5 ≤ 0 ∨ 4 ≤ h.2.1 5 ∨ sw_M h.1 P (h.2.1 4) (h.2.1 3) = none) → wp_M_fresh h (fun r66 u66 => wb_M_dispatch_70 Q u66 r66)) (hl : (qL h.1 P).length ≤ 24) : wp_M_dispatch h Q := by
  have hrq := IM_req hI
  unfold wp_M_dispatch
  refine pm_wait2 (Q := fun r2 r7 u7 => ((¬ (r2 + r7) = 0 → (((u7.2.1 5) ≤ 0 → wb_M_dispatch_47 Q u7 (-1)) ∧ (¬ (u7.2.1 5) ≤ 0 → ((4 ≤ (u7.2.1 5) → wb_M_dispatch_47 Q u7 (-1)) ∧ (¬ 4 ≤ (u7.2.1 5) → wp_M_sweep u7 (u7.2.1 4) (u7.2.1 3) (fun r40 u40 => wb_M_dispatch_47 Q u40 r40)))))) ∧ ((r2 + r7) = 0 → Q 0 u7))) h0 hP hI (fun a b e => ?_)
  rw [e]
  refine ⟨fun z => ?_, fun z => ?_⟩
  · have hne : ¬ qL h.1 P = [] := fun y => z (by rw [y]; rfl)
    have b47 : (h.2.1 5 ≤ 0 ∨ 4 ≤ h.2.1 5 ∨ sw_M h.1 P (h.2.1 4) (h.2.1 3) = none) → wb_M_dispatch_47 Q h (-1) := by
      intro hc
      unfold wb_M_dispatch_47
      exact ⟨fun _ => hF hne hc, fun y => absurd (by decide) y⟩
    refine ⟨fun y => b47 (Or.inl y), fun y => ⟨fun x => b47 (Or.inr (Or.inl x)), fun x => pm_sweep h0 hP hrq ?_⟩⟩
    have es : (List.range' 0 P).foldl (bs (cs_M h.1 P (h.2.1 4) (h.2.1 3)) (fun r => st_F h.1 (nI r) P)) none = sw_M h.1 P (h.2.1 4) (h.2.1 3) := rfl
    rw [es]
    cases hs : sw_M h.1 P (h.2.1 4) (h.2.1 3) with
    | none => exact b47 (Or.inr (Or.inr hs))
    | some r =>
      have hr := (sw_lt hs).1
      show wb_M_dispatch_47 Q h (nI r)
      unfold wb_M_dispatch_47
      exact ⟨fun v => absurd v (nu_neg (by omega)), fun _ => hG hne y x r hs⟩
  · have e0 : (0 : Int32) = nI 0 := rfl
    rw [e0] at z
    have := (nu_eq (by omega) (by omega)).mp z
    exact hE (List.length_eq_zero_iff.mp this)
-- the component
theorem pe_first {u : St} {A : Nat → Nat → Int32} {P : Nat} {w : Int32} {Q : Int32 → St → Prop} (hP : P ≤ 200) (hq' : qu_E u (qL A P)) (hs : ∀ w low, (qL A P).foldl (bs (cs_E u.1 w low) (u.1 8)) none = sw_M A P w low) (hl : ∀ w, (qL A P).foldl (bs (cl_E u.1 w (u.2.1 8)) (u.1 11)) none = lt_M A (u.2.1 8) P w) (hq : Q (en (fi_M A (u.2.1 8) (u.2.1 9) P w)) u) : wp_E_firstOfBatch u w Q := by
  unfold wp_E_firstOfBatch
  refine pe_leastExpired hq' ?_
  rw [hl]
  unfold fi_M at hq
  cases h1 : lt_M A (u.2.1 8) P w with
  | some r =>
    rw [h1] at hq
    exact ⟨fun z => absurd z (nu_m1 (a := r) (by have := (lt_lt h1).1; omega)), fun _ => hq⟩
  | none =>
    rw [h1] at hq
    refine ⟨fun _ => pe_leastStart hq' ?_, fun z => absurd rfl z⟩
    rw [hs]
    cases h2 : sw_M A P w (u.2.1 9) with
    | some r =>
      rw [h2] at hq
      exact ⟨fun z => absurd z (nu_m1 (a := r) (by have := (sw_lt h2).1; omega)), fun _ => hq⟩
    | none =>
      rw [h2] at hq
      refine ⟨fun _ => pe_leastStart hq' ?_, fun z => absurd rfl z⟩
      rw [hs]
      exact hq
theorem pe_pick {u : St} {A : Nat → Nat → Int32} {P B : Nat} {Q : Int32 → St → Prop} (hP : P ≤ 200) (hI : IM A P B) (hq' : qu_E u (qL A P)) (hs : ∀ w low, (qL A P).foldl (bs (cs_E u.1 w low) (u.1 8)) none = sw_M A P w low) (hl : ∀ w, (qL A P).foldl (bs (cl_E u.1 w (u.2.1 8)) (u.1 11)) none = lt_M A (u.2.1 8) P w)
    (hG : ¬ u.2.1 3 ≤ 0 → ¬ 4 ≤ u.2.1 3 → ∀ r, sw_M A P (u.2.1 2) (u.2.1 9) = some r → Q (nI r) (sI u 3 (u.2.1 3 + 1)))
    (hN : ¬ CW A P 0 → ¬ CW A P 1 → Q (-1) u)
    (hA : (u.2.1 3 ≤ 0 ∨ 4 ≤ u.2.1 3 ∨ sw_M A P (u.2.1 2) (u.2.1 9) = none) → CW A P 0 → (¬ CW A P 1 ∨ ¬ 2 ≤ u.2.1 4) → Q (en (fi_M A (u.2.1 8) (u.2.1 9) P 0)) (if bb (CW A P 1) then sI (sI (sI u 3 1) 2 0) 4 (u.2.1 4 + 1) else sI (sI u 3 1) 2 0))
    (hB : (u.2.1 3 ≤ 0 ∨ 4 ≤ u.2.1 3 ∨ sw_M A P (u.2.1 2) (u.2.1 9) = none) → (CW A P 0 ∨ CW A P 1) → (¬ CW A P 0 ∨ (CW A P 1 ∧ 2 ≤ u.2.1 4)) → Q (en (fi_M A (u.2.1 8) (u.2.1 9) P 1)) (sI (sI (sI u 3 1) 2 1) 4 0)) : wp_E_pick u Q := by
  have rdy : ∀ w, (¬ (qL A P).foldl (bs (cs_E u.1 w 0) (u.1 8)) none = none) ↔ CW A P w := by
    intro w
    rw [hs, sw_0 hI]
    exact ⟨fun z => Classical.byContradiction z, fun z y => y z⟩
  have b77 : ∀ (x y : Int32), (u.2.1 3 ≤ 0 ∨ 4 ≤ u.2.1 3 ∨ sw_M A P (u.2.1 2) (u.2.1 9) = none) → (x = 0 ↔ ¬ CW A P 0) → (y = 0 ↔ ¬ CW A P 1) → (CW A P 0 ∨ CW A P 1) → wb_E_pick_77 Q u x y := by
    intro x y hc hx hy h01
    have B43 : (¬ CW A P 0 ∨ (CW A P 1 ∧ 2 ≤ u.2.1 4)) → wb_B_begin_43 (fun u83 => wp_E_firstOfBatch u83 (u83.2.1 2) (fun r94 u94 => Q r94 u94)) (sI u 3 1) := by
      intro h1
      unfold wb_B_begin_43
      exact pe_first (u := sI (sI (sI u 3 1) 2 1) 4 0) hP hq' hs hl (hB hc h01 h1)
    have B21 : CW A P 0 → (¬ CW A P 1 ∨ ¬ 2 ≤ u.2.1 4) → wb_B_begin_21 (fun u83 => wp_E_firstOfBatch u83 (u83.2.1 2) (fun r94 u94 => Q r94 u94)) (sI u 3 1) y := by
      intro h1 h2
      have hq := hA hc h1 h2
      unfold wb_B_begin_21
      refine ⟨fun z => ?_, fun z => ?_⟩
      · rw [if_neg (by rw [bb_f.mpr (hy.mp z)]; decide)] at hq
        exact pe_first (u := sI (sI u 3 1) 2 0) hP hq' hs hl hq
      · rw [if_pos (bb_t.mpr (Classical.byContradiction (fun v => z (hy.mpr v))))] at hq
        exact pe_first (u := sI (sI (sI u 3 1) 2 0) 4 (u.2.1 4 + 1)) hP hq' hs hl hq
    unfold wb_E_pick_77 wp_B_begin
    refine ⟨fun z => B43 (Or.inl (hx.mp z)), fun z => ?_⟩
    have hc0 : CW A P 0 := Classical.byContradiction (fun v => z (hx.mpr v))
    refine ⟨fun v => B21 hc0 (Or.inl (hy.mp v)), fun v => ⟨fun s => B43 (Or.inr ⟨Classical.byContradiction (fun t => v (hy.mpr t)), s⟩), fun s => B21 hc0 (Or.inr s)⟩⟩
  have b49 : (u.2.1 3 ≤ 0 ∨ 4 ≤ u.2.1 3 ∨ sw_M A P (u.2.1 2) (u.2.1 9) = none) → wb_E_pick_49 Q u := by
    intro hc
    have fin : ∀ (x y : Int32), (x = 0 ↔ ¬ CW A P 0) → (y = 0 ↔ ¬ CW A P 1) → ((¬ x = 0 → wb_E_pick_77 Q u x y) ∧ (x = 0 → ((¬ y = 0 → wb_E_pick_77 Q u x y) ∧ (y = 0 → Q (-1) u)))) := by
      intro x y hx hy
      refine ⟨fun z => b77 x y hc hx hy (Or.inl (Classical.byContradiction (fun v => z (hx.mpr v)))), fun z => ⟨fun v => b77 x y hc hx hy (Or.inr (Classical.byContradiction (fun s => v (hy.mpr s)))), fun v => hN (hx.mp z) (hy.mp v)⟩⟩
    have h1t : ∀ w, CW A P w → ((1 : Int32) = 0 ↔ ¬ CW A P w) := fun w h => ⟨fun z => absurd z (by decide), fun z => absurd h z⟩
    have h0t : ∀ w, ¬ CW A P w → ((0 : Int32) = 0 ↔ ¬ CW A P w) := fun w h => ⟨fun _ => h, fun _ => rfl⟩
    have no : ∀ w, (qL A P).foldl (bs (cs_E u.1 w 0) (u.1 8)) none = none → ¬ CW A P w := fun w h z => ((rdy w).mpr z) h
    unfold wb_E_pick_49
    exact pe_hasReady hq' (fun a => pe_hasReady hq' (fun b => fin 1 1 (h1t 0 ((rdy 0).mp a)) (h1t 1 ((rdy 1).mp b))) (fun b => fin 1 0 (h1t 0 ((rdy 0).mp a)) (h0t 1 (no 1 b)))) (fun a => pe_hasReady hq' (fun b => fin 0 1 (h0t 0 (no 0 a)) (h1t 1 ((rdy 1).mp b))) (fun b => fin 0 0 (h0t 0 (no 0 a)) (h0t 1 (no 1 b))))
  unfold wp_E_pick wp_B_mayGoOn
  refine ⟨fun a => ⟨fun _ => b49 (Or.inl a), fun z => absurd rfl z⟩, fun a => ⟨fun b => ⟨fun _ => b49 (Or.inr (Or.inl b)), fun z => absurd rfl z⟩, fun b => ⟨fun z => absurd z (by decide), fun _ => pe_leastStart hq' ?_⟩⟩⟩
  rw [hs]
  cases h1 : sw_M A P (u.2.1 2) (u.2.1 9) with
  | none => exact ⟨fun _ => b49 (Or.inr (Or.inr h1)), fun z => absurd rfl z⟩
  | some r => exact ⟨fun z => absurd z (nu_m1 (a := r) (by have := (sw_lt h1).1; omega)), fun _ => hG a b r h1⟩
