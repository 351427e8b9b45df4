-- dispatch
theorem skip_fold {α : Type} {f : α → Nat → α} {U : α} {r m : Nat} (h : ∀ p, p < r → f U p = U) : ∀ (d i : Nat), i + d = r → (List.range' i (d + m)).foldl f U = (List.range' r m).foldl f U := by
  intro d
  induction d with
  | zero =>
    intro i hi
    have e : i = r := by omega
    rw [Nat.zero_add, e]
  | succ d ih =>
    intro i hi
    have e : d + 1 + m = (d + m) + 1 := by omega
    rw [e]
    show (List.range' (i + 1) (d + m)).foldl f (f U i) = _
    rw [h i (by omega)]
    exact ih (i + 1) (by omega)
theorem disp_E {A U : Nat → Nat → Int32} {V : Nat → Int32} {W : Nat → Int64} {L : List Nat} {P B r : Nat} {Q : St → Prop} (hI : IM A P B) (hP : P ≤ 200) (hV : V 0 = nI P) (hL : qu_E (U, V, W) L) (hU : ∀ p, p < P → U 2 p = A 2 p ∧ U 3 p = A 3 p ∧ U 4 p = A 5 p) (hr : r < P)
    (hq : ∀ F : Nat → Int32, (∀ j q, (L.filter (fun x => !(x == r)))[j]? = some q → F j = nI q) → Q (va_up ((List.range' 0 P).foldl (fe_ r) U) 14 F, va_up (va_up (va_up V 1 (nI (L.filter (fun x => !(x == r))).length)) 9 (U 8 r + U 9 r)) 10 (nI r), W)) : wp_E_carryOut (U, V, W) (nI r) Q := by
  have e0 : (List.range' 0 P).foldl (fe_ r) U = (List.range' r (P - r)).foldl (fe_ r) U := by
    have h := skip_fold (f := fe_ r) (U := U) (r := r) (m := P - r) (fun p hp => ?_) r 0 (by omega)
    · rw [show r + (P - r) = P by omega] at h
      exact h
    · unfold fe_
      rw [(hU p (by omega)).2.2]
      obtain ⟨z, h1, h2⟩ := IM_req hI p (by omega)
      rw [if_neg (fun y => by have := (nu_eq (by omega) (by omega)).mp (h2.symm.trans (bb_t.mp y)); omega)]
  rw [e0] at hq
  refine ⟨P - r + 1, pe_disp_loop hI hP hV (P - r) r (P - r + 1) U (by omega) (by omega) (fun p hp => ⟨(hU p hp).1, (hU p hp).2.1⟩) ?_⟩
  have e14 := fe_fold r (List.range' r (P - r)) U 14 (by decide) (by decide) (by decide)
  have e8 := fe_fold r (List.range' r (P - r)) U 8 (by decide) (by decide) (by decide)
  have e9 := fe_fold r (List.range' r (P - r)) U 9 (by decide) (by decide) (by decide)
  generalize (List.range' r (P - r)).foldl (fe_ r) U = G at hq e14 e8 e9 ⊢
  refine pe_remove (g := (G, V, W)) (L := L) ⟨hL.1, hL.2.1, fun i q hi => ?_⟩ (by omega) (fun F hF => ?_)
  · show G 14 i = nI q ∧ q < 200
    rw [e14]
    exact hL.2.2 i q hi
  · refine pe_end (by omega) ?_
    have h := hq F hF
    have e8' : va_up G 14 F 8 r = U 8 r := by rw [← e8]; rfl
    have e9' : va_up G 14 F 9 r = U 9 r := by rw [← e9]; rfl
    show Q (sI (sI (va_up G 14 F, va_up V 1 (nI (L.filter (fun x => !(x == r))).length), W) 9 (va_up G 14 F 8 r + va_up G 14 F 9 r)) 10 (nI r))
    rw [e8', e9']
    exact h
theorem disp_M {A : Nat → Nat → Int32} {w5 : Nat → Int32} {wl : Nat → Int64} {P B r : Nat} {Q : Int32 → St → Prop} (hI : IM A P B) (hP : P ≤ 200) (h0 : w5 0 = nI P) (hq : Q (mb_F A (nI r) P) ((List.range' 0 P).foldl (fm_ r) A, va_up (va_up w5 3 (st_F A (nI r) P + ln_F A (nI r) P)) 7 (nI r), wl)) : wb_M_dispatch_70 Q (A, w5, wl) (nI r) := by
  unfold wb_M_dispatch_70
  refine pm_start (h := (A, w5, wl)) h0 hP (pm_length (h := (A, w5, wl)) h0 hP ⟨P + 1, ?_⟩)
  exact pm_disp_loop (Q := Q) (r := r) (V := va_up (va_up w5 3 (st_F A (nI r) P + ln_F A (nI r) P)) 7 (nI r)) (w := wl) hI hP h0 P 0 (P + 1) A 0 (by omega) (by omega) (fun _ _ _ => rfl) hq
-- the arrays behind it
theorem done_6 {A : Nat → Nat → Int32} {P r q : Nat} (hq : q < P) : (List.range' 0 P).foldl (fm_ r) A 6 q = if A 5 q = nI r then 2 else A 6 q := by
  rw [fm_6]
  by_cases h : A 5 q = nI r
  · rw [if_pos ⟨by omega, by omega, h⟩, if_pos h]
  · rw [if_neg (fun z => h z.2.2), if_neg h]
theorem done_wa {A : Nat → Nat → Int32} {P r q : Nat} (hP : P ≤ 200) (hr : r < P) (hq : q < P) : wa_M ((List.range' 0 P).foldl (fm_ r) A) q ↔ wa_M A q ∧ ¬ q = r := by
  unfold wa_M
  rw [done_6 hq, fm_fold r _ A 5 (by decide) (by decide) (by decide)]
  by_cases h : A 5 q = nI r
  · rw [if_pos h]
    refine ⟨fun z => absurd z.1 (by decide), fun z => absurd ((nu_eq (by omega) (by omega)).mp (z.1.2.symm.trans h)) z.2⟩
  · rw [if_neg h]
    refine ⟨fun z => ⟨z, fun e => h (by rw [z.2, e])⟩, fun z => z.1⟩
theorem done_q {A : Nat → Nat → Int32} {P r : Nat} (hP : P ≤ 200) (hr : r < P) : qL ((List.range' 0 P).foldl (fm_ r) A) P = (qL A P).filter (fun x => !(x == r)) := by
  unfold qL
  rw [List.filter_filter]
  refine List.filter_congr (fun q hq => ?_)
  rw [List.mem_range'_1] at hq
  rw [bb_iff (done_wa (A := A) hP hr (q := q) (by omega))]
  by_cases h : q = r
  · rw [bb_f.mpr (fun z => z.2 h)]
    simp [h]
  · by_cases h2 : wa_M A q
    · rw [bb_t.mpr ⟨h2, h⟩, bb_t.mpr h2]
      simp [h]
    · rw [bb_f.mpr (fun z => h2 z.1), bb_f.mpr h2]
      simp
theorem done_IM {A : Nat → Nat → Int32} {P B r : Nat} (hI : IM A P B) (hP : P ≤ 200) : IM ((List.range' 0 P).foldl (fm_ r) A) P B := by
  have e1 := fm_fold r (List.range' 0 P) A 1 (by decide) (by decide) (by decide)
  have e2 := fm_fold r (List.range' 0 P) A 2 (by decide) (by decide) (by decide)
  have e3 := fm_fold r (List.range' 0 P) A 3 (by decide) (by decide) (by decide)
  have e5 := fm_fold r (List.range' 0 P) A 5 (by decide) (by decide) (by decide)
  have e9 := fm_fold r (List.range' 0 P) A 9 (by decide) (by decide) (by decide)
  have e6 : ∀ q, q < P → (List.range' 0 P).foldl (fm_ r) A 6 q = if A 5 q = nI r then 2 else A 6 q := fun q hq => done_6 hq
  generalize (List.range' 0 P).foldl (fm_ r) A = A' at e1 e2 e3 e5 e9 e6 ⊢
  have one : ∀ q, q < P → A' 6 q = 1 → A 6 q = 1 := by
    intro q hq h
    rw [e6 q hq] at h
    by_cases h5 : A 5 q = nI r
    · rw [if_pos h5] at h; exact absurd h (by decide)
    · rw [if_neg h5] at h; exact h
  refine ⟨fun p hp => ?_, fun p q hp hqp h6 h5 hq6 => ?_, ?_, ?_⟩
  · obtain ⟨c1, c2, c3, z, hz, c5, c6, c7⟩ := hI.1 p hp
    refine ⟨by rw [e1]; exact c1, ?_, ?_, z, hz, by rw [e5]; exact c5, by rw [e5]; exact c6, ?_⟩
    · rw [e6 p hp]
      by_cases h5 : A 5 p = nI r
      · rw [if_pos h5]; exact Or.inr rfl
      · rw [if_neg h5]; exact c2
    · rw [e2, e3]; exact c3
    · rw [e6 p hp, e6 z (by omega), c5, c6, c7]
  · have hc := hI.2.1 p q hp hqp (one p hp h6) (by rw [← e5]; exact h5) (one q (by omega) hq6)
    unfold cf_M at hc ⊢
    rw [e1, e2, e3]
    exact hc
  · intro r' hr' h5
    rw [e5] at h5
    rw [e9]
    exact hI.2.2.1 r' hr' h5
  · intro a b hab hb h5 h5'
    rw [e5] at h5 h5'
    rw [e9]
    exact hI.2.2.2 a b hab hb h5 h5'
theorem F_ext {A A' : Nat → Nat → Int32} (e2 : A' 2 = A 2) (e3 : A' 3 = A 3) (e5 : A' 5 = A 5) (r : Int32) (n : Nat) : st_F A' r n = st_F A r n ∧ ln_F A' r n = ln_F A r n ∧ mb_F A' r n = mb_F A r n := by
  refine ⟨?_, ?_, ?_⟩
  · unfold st_F
    congr 1
    funext b p
    unfold st_S
    rw [e5, e2]
  · unfold ln_F
    congr 1
    funext b p
    unfold ln_S
    rw [e5, e3]
  · unfold mb_F
    congr 1
    funext b p
    unfold mb_S
    rw [e5]
set_option maxHeartbeats 4000000 in
theorem st_dispatch {k : Nat} {g h : St} (hR : Rel k g h) : wp_E_dispatch g (fun r u => wp_M_dispatch h (Ow k r u)) := by
  have hR0 := hR
  obtain ⟨P, B, hP, hB, h0, g0, h1, hI, hp, hd, hn, hq⟩ := hR
  obtain ⟨n1, n2, n3, n4, n5, n6, n7, n8, n9⟩ := hn
  obtain ⟨l0, hl0⟩ := qL_l0 h.1 P
  have hrq := IM_req hI
  unfold wp_E_dispatch
  refine pe_markReady (l0 := l0) g0 hP hq hl0 (fun p hpP => by rw [(hp.1 p hpP).2.2.2]; exact hrq p hpP) (fun U W hU hv => ?_)
  have hrd := mk_ready hI hP hp hd hl0 hv
  have hq' : qu_E (U, g.2.1, W) (qL h.1 P) := ⟨hq.1, hq.2.1, fun i r hi => by show U 14 i = nI r ∧ r < 200; rw [hU 14 (by decide)]; exact hq.2.2 i r hi⟩
  have hs : ∀ w low, (qL h.1 P).foldl (bs (cs_E U w low) (U 8)) none = sw_M h.1 P w low := fun w low => sweep_eq hp hU hrd
  have hl : ∀ w, (qL h.1 P).foldl (bs (cl_E U w (g.2.1 8)) (U 11)) none = lt_M h.1 (g.2.1 8) P w := fun w => late_eq hp hU hrd
  have ex : ¬ qL h.1 P = [] → CW h.1 P 0 ∨ CW h.1 P 1 := by
    intro hne
    have hl1 : (qL h.1 P)[0]? = some l0 := hl0.resolve_left hne
    obtain ⟨hlP, hlw⟩ := qL_mem.mp (List.mem_of_getElem? hl1)
    have hrdy : rd_M h.1 P l0 := by
      rw [rd_iff hI hP hlP]
      refine ⟨hlw, fun q hqP hqw => hI.2.2.2 l0 q (qL_first hl1 q hqP hqw) hqP hlw.2 hqw.2, fun q hql hq6 => ?_⟩
      obtain ⟨_, _, _, z, z1, z2, z3, z4⟩ := hI.1 q (by omega)
      have := qL_first hl1 z (by omega) ⟨z4.trans hq6, z3⟩
      omega
    rcases (hI.1 l0 hlP).1 with hw | hw
    · exact Or.inl ⟨l0, hlP, hrdy, hw⟩
    · exact Or.inr ⟨l0, hlP, hrdy, hw⟩
  have inq : ∀ r, r < P → wa_M h.1 r → ¬ qL h.1 P = [] := fun r hr hw e => by
    have := qL_mem.mpr ⟨hr, hw⟩
    rw [e] at this
    cases this
  -- the end, once the request is chosen
  have fin : ∀ (r : Nat) (V w5 : Nat → Int32), r < P → wa_M h.1 r → V 0 = nI P → V 1 = nI (qL h.1 P).length → w5 0 = nI P → w5 1 = nI B → NR V w5 h.1 → (∀ Q, wb_M_dispatch_70 Q (h.1, w5, h.2.2) (nI r) → wp_M_dispatch h Q) → wp_E_carryOut (U, V, W) (nI r) (fun u18 => (vp_in (nI r) 200 ∧ wp_M_dispatch h (Ow k (u18.1 10 (nI r).toNatClampNeg) u18))) := by
    intro r V w5 hr hw hV0 hV1 hw0 hw1 hNR hpath
    obtain ⟨m1, m2, m3, m4, m5, m6, m7, m8, m9⟩ := hNR
    have hUp : ∀ p, p < P → U 1 p = h.1 1 p ∧ U 2 p = h.1 2 p ∧ U 3 p = h.1 3 p ∧ U 4 p = h.1 5 p := by
      intro p hpP
      rw [hU 1 (by decide), hU 2 (by decide), hU 3 (by decide), hU 4 (by decide)]
      exact hp.1 p hpP
    refine disp_E hI hP hV0 ⟨hV1, hq'.2.1, hq'.2.2⟩ (fun p hpP => ⟨(hUp p hpP).2.1, (hUp p hpP).2.2.1, (hUp p hpP).2.2.2⟩) hr (fun F hF => ⟨nu_in (by omega) (by omega), hpath _ (disp_M hI hP hw0 ⟨?_, ?_⟩)⟩)
    · rw [nu_cl (by omega)]
      show va_up ((List.range' 0 P).foldl (fe_ r) U) 14 F 10 r = _
      have e10 : va_up ((List.range' 0 P).foldl (fe_ r) U) 14 F 10 = U 10 := fe_fold r (List.range' 0 P) U 10 (by decide) (by decide) (by decide)
      rw [e10, hU 10 (by decide)]
      exact (hp.2 r hr hw).2.2.2.1
    · have hdU : DR U h.1 P := by
        unfold DR
        rw [hU 0 (by decide), hU 5 (by decide), hU 6 (by decide)]
        exact hd
      have hst : ∀ p, 0 ≤ p → p < P → h.1 5 p = nI r → h.1 6 p = 1 := by
        intro p _ hpP h5
        obtain ⟨_, _, _, z, z1, z2, z3, z4⟩ := hI.1 p hpP
        have e : z = r := (nu_eq (by omega) (by omega)).mp (z2.symm.trans h5)
        subst e
        exact z4.symm.trans hw.1
      have hD2 := f_DR (r := r) hI hP P 0 U h.1 (by omega) hdU (fun _ _ _ => rfl) hUp hst
      have e8 : U 8 r + U 9 r = st_F h.1 (nI r) P + ln_F h.1 (nI r) P := by
        obtain ⟨_, a, b, _⟩ := hp.2 r hr hw
        rw [hU 8 (by decide), hU 9 (by decide), a, b]
      refine ⟨P, B, hP, by omega, hw0, hV0, hw1, done_IM hI hP, ?_, ?_, ?_, ?_⟩
      · have k1 := fe_fold r (List.range' 0 P) U 1 (by decide) (by decide) (by decide)
        have k2 := fe_fold r (List.range' 0 P) U 2 (by decide) (by decide) (by decide)
        have k3 := fe_fold r (List.range' 0 P) U 3 (by decide) (by decide) (by decide)
        have k4 := fe_fold r (List.range' 0 P) U 4 (by decide) (by decide) (by decide)
        have k7 := fe_fold r (List.range' 0 P) U 7 (by decide) (by decide) (by decide)
        have k8 := fe_fold r (List.range' 0 P) U 8 (by decide) (by decide) (by decide)
        have k9 := fe_fold r (List.range' 0 P) U 9 (by decide) (by decide) (by decide)
        have k10 := fe_fold r (List.range' 0 P) U 10 (by decide) (by decide) (by decide)
        have k11 := fe_fold r (List.range' 0 P) U 11 (by decide) (by decide) (by decide)
        have k12 := fe_fold r (List.range' 0 P) U 12 (by decide) (by decide) (by decide)
        have a1 := fm_fold r (List.range' 0 P) h.1 1 (by decide) (by decide) (by decide)
        have a2 := fm_fold r (List.range' 0 P) h.1 2 (by decide) (by decide) (by decide)
        have a3 := fm_fold r (List.range' 0 P) h.1 3 (by decide) (by decide) (by decide)
        have a5 := fm_fold r (List.range' 0 P) h.1 5 (by decide) (by decide) (by decide)
        have a8 := fm_fold r (List.range' 0 P) h.1 8 (by decide) (by decide) (by decide)
        have a9 := fm_fold r (List.range' 0 P) h.1 9 (by decide) (by decide) (by decide)
        refine ⟨fun p hpP => ?_, fun q hqP hqw => ?_⟩
        · show (List.range' 0 P).foldl (fe_ r) U 1 p = (List.range' 0 P).foldl (fm_ r) h.1 1 p ∧ (List.range' 0 P).foldl (fe_ r) U 2 p = (List.range' 0 P).foldl (fm_ r) h.1 2 p ∧ (List.range' 0 P).foldl (fe_ r) U 3 p = (List.range' 0 P).foldl (fm_ r) h.1 3 p ∧ (List.range' 0 P).foldl (fe_ r) U 4 p = (List.range' 0 P).foldl (fm_ r) h.1 5 p
          rw [k1, k2, k3, k4, a1, a2, a3, a5]
          exact hUp p hpP
        · have hw2 := ((done_wa (A := h.1) hP hr hqP).mp hqw).1
          obtain ⟨f1, f2, f3⟩ := F_ext a2 a3 a5 (nI q) P
          rw [f1, f2, f3]
          show (List.range' 0 P).foldl (fe_ r) U 7 q = (List.range' 0 P).foldl (fm_ r) h.1 1 q ∧ (List.range' 0 P).foldl (fe_ r) U 8 q = st_F h.1 (nI q) P ∧ (List.range' 0 P).foldl (fe_ r) U 9 q = ln_F h.1 (nI q) P ∧ (List.range' 0 P).foldl (fe_ r) U 10 q = mb_F h.1 (nI q) P ∧ (List.range' 0 P).foldl (fe_ r) U 11 q = (List.range' 0 P).foldl (fm_ r) h.1 8 q ∧ (List.range' 0 P).foldl (fe_ r) U 12 q = (List.range' 0 P).foldl (fm_ r) h.1 9 q
          rw [k7, k8, k9, k10, k11, k12, a1, a8, a9, hU 7 (by decide), hU 8 (by decide), hU 9 (by decide), hU 10 (by decide), hU 11 (by decide), hU 12 (by decide)]
          exact hp.2 q hqP hw2
      · exact hD2
      · have a10 := fm_fold r (List.range' 0 P) h.1 10 (by decide) (by decide) (by decide)
        refine ⟨m1, m2, m3, ?_, ?_, m6, m7, e8, rfl⟩
        · show V 5 = (List.range' 0 P).foldl (fm_ r) h.1 10 0
          rw [a10]; exact m4
        · show V 6 = (List.range' 0 P).foldl (fm_ r) h.1 10 1
          rw [a10]; exact m5
      · rw [done_q hP hr]
        refine ⟨rfl, ?_, fun i q hi => ⟨?_, ?_⟩⟩
        · exact Nat.le_trans (List.length_filter_le _ _) hq.2.1
        · show va_up ((List.range' 0 P).foldl (fe_ r) U) 14 F 14 i = nI q
          have e14 : va_up ((List.range' 0 P).foldl (fe_ r) U) 14 F 14 = F := by simp [va_up]
          rw [e14]
          exact hF i q hi
        · have hm := List.mem_of_getElem? hi
          have := (qL_mem.mp (List.mem_filter.mp hm).1).1
          omega
  refine pe_pick (u := (U, g.2.1, W)) hP hI hq' hs hl (fun a b r hr => ?_) (fun c0 c1 => ?_) (fun hc c0 c1 => ?_) (fun hc c01 c => ?_)
  · -- the batch goes on
    have hr : sw_M h.1 P (g.2.1 2) (g.2.1 9) = some r := hr
    obtain ⟨hrP, hrr⟩ := sw_lt hr
    refine ⟨fun _ => fin r (va_up g.2.1 3 (g.2.1 3 + 1)) (va_up h.2.1 5 (h.2.1 5 + 1)) hrP hrr.1 g0 hq.1 h0 h1 ⟨n1, ?_, n3, n4, n5, n6, n7, n8, n9⟩ (fun Q hQ => ?_), fun z => absurd z (nu_m1 (by omega))⟩
    · show g.2.1 3 + 1 = h.2.1 5 + 1
      rw [n2]
    · refine pm_dispatch h0 hP hI (fun e => absurd e (inq r hrP hrr.1)) (fun _ _ _ r' hr' => ?_) (fun _ z => ?_) hq.2.1
      · rw [← n1, ← n8, hr] at hr'
        cases hr'
        exact hQ
      · rw [← n2, ← n1, ← n8, hr] at z
        rcases z with z | z | z
        · exact absurd z a
        · exact absurd z b
        · cases z
  · -- nobody waits
    refine ⟨fun z => absurd rfl z, fun _ => pm_dispatch h0 hP hI (fun _ => ⟨rfl, Rel_mono (Rel_13 hR0 hU)⟩) (fun z => absurd (ex z) (fun y => y.elim c0 c1)) (fun z => absurd (ex z) (fun y => y.elim c0 c1)) hq.2.1⟩
  · -- a new batch, reading
    obtain ⟨r, hr⟩ := fi_some (time := g.2.1 8) (pos := g.2.1 9) hI c0
    obtain ⟨hrP, hrr⟩ := fi_lt hr
    have hc : g.2.1 3 ≤ 0 ∨ 4 ≤ g.2.1 3 ∨ sw_M h.1 P (g.2.1 2) (g.2.1 9) = none := hc
    have hr2 : fi_M h.1 (h.2.1 2) (h.2.1 3) P 0 = some r := by rw [← n7, ← n8]; exact hr
    have path : ∀ Q, wb_M_dispatch_70 Q (h.1, va_up (va_up (va_up h.2.1 4 0) 6 (if bb (CW h.1 P 1) then h.2.1 6 + 1 else h.2.1 6)) 5 1, h.2.2) (nI r) → wp_M_dispatch h Q := by
      intro Q hQ
      refine pm_dispatch h0 hP hI (fun e => absurd e (inq r hrP hrr.1)) (fun _ z1 z2 r' hr' => ?_) (fun _ _ => pm_fresh h0 hP hI (fun _ _ => ?_) (fun z => ?_)) hq.2.1
      · rw [← n2] at z1 z2
        rw [← n1, ← n8] at hr'
        rcases hc with z | z | z
        · exact absurd z z1
        · exact absurd z z2
        · rw [z] at hr'; cases hr'
      · rw [hr2]
        exact hQ
      · rw [← n3] at z
        exact absurd z (fun z => z.elim (fun y => y c0) (fun y => c1.elim (fun x => x y.1) (fun x => x y.2)))
    have er : en (fi_M h.1 (g.2.1 8) (g.2.1 9) P 0) = nI r := by rw [hr]; rfl
    show ((¬ en (fi_M h.1 (g.2.1 8) (g.2.1 9) P 0) = -1 → _) ∧ _)
    rw [er]
    refine ⟨fun _ => ?_, fun z => absurd z (nu_m1 (by omega))⟩
    by_cases hc1 : CW h.1 P 1
    · rw [if_pos (bb_t.mpr hc1)] at path ⊢
      exact fin r (va_up (va_up (va_up g.2.1 3 1) 2 0) 4 (g.2.1 4 + 1)) (va_up (va_up (va_up h.2.1 4 0) 6 (h.2.1 6 + 1)) 5 1) hrP hrr.1 g0 hq.1 h0 h1 ⟨rfl, rfl, by show g.2.1 4 + 1 = h.2.1 6 + 1; rw [n3], n4, n5, n6, n7, n8, n9⟩ path
    · rw [if_neg (fun z => hc1 (bb_t.mp z))] at path ⊢
      exact fin r (va_up (va_up g.2.1 3 1) 2 0) (va_up (va_up (va_up h.2.1 4 0) 6 (h.2.1 6)) 5 1) hrP hrr.1 g0 hq.1 h0 h1 ⟨rfl, rfl, n3, n4, n5, n6, n7, n8, n9⟩ path
  · -- a new batch, writing
    have hc1 : CW h.1 P 1 := c.elim (fun z => c01.resolve_left z) (fun z => z.1)
    obtain ⟨r, hr⟩ := fi_some (time := g.2.1 8) (pos := g.2.1 9) hI hc1
    obtain ⟨hrP, hrr⟩ := fi_lt hr
    have hc : g.2.1 3 ≤ 0 ∨ 4 ≤ g.2.1 3 ∨ sw_M h.1 P (g.2.1 2) (g.2.1 9) = none := hc
    have hr2 : fi_M h.1 (h.2.1 2) (h.2.1 3) P 1 = some r := by rw [← n7, ← n8]; exact hr
    have path : ∀ Q, wb_M_dispatch_70 Q (h.1, va_up (va_up (va_up h.2.1 4 1) 6 0) 5 1, h.2.2) (nI r) → wp_M_dispatch h Q := by
      intro Q hQ
      refine pm_dispatch h0 hP hI (fun e => absurd e (inq r hrP hrr.1)) (fun _ z1 z2 r' hr' => ?_) (fun _ _ => pm_fresh h0 hP hI (fun z1 z2 => ?_) (fun _ => ?_)) hq.2.1
      · rw [← n2] at z1 z2
        rw [← n1, ← n8] at hr'
        rcases hc with z | z | z
        · exact absurd z z1
        · exact absurd z z2
        · rw [z] at hr'; cases hr'
      · have c : ¬ CW h.1 P 0 ∨ (CW h.1 P 1 ∧ 2 ≤ g.2.1 4) := c
        rw [n3] at c
        exact absurd c (fun y => y.elim (fun x => x z1) (fun x => z2.elim (fun t => t x.1) (fun t => t x.2)))
      · rw [hr2]
        exact hQ
    have er : en (fi_M h.1 (g.2.1 8) (g.2.1 9) P 1) = nI r := by rw [hr]; rfl
    show ((¬ en (fi_M h.1 (g.2.1 8) (g.2.1 9) P 1) = -1 → _) ∧ _)
    rw [er]
    exact ⟨fun _ => fin r (va_up (va_up (va_up g.2.1 3 1) 2 1) 4 0) (va_up (va_up (va_up h.2.1 4 1) 6 0) 5 1) hrP hrr.1 g0 hq.1 h0 h1 ⟨rfl, rfl, rfl, n4, n5, n6, n7, n8, n9⟩ path, fun z => absurd z (nu_m1 (by omega))⟩
-- the first states
theorem Rel_0 : Rel 0 gE0 gM0 := by
  refine ⟨0, 0, by decide, by decide, rfl, rfl, rfl, ⟨fun p hp => absurd hp (Nat.not_lt_zero _), fun p q hp => absurd hp (Nat.not_lt_zero _), fun r hr => absurd hr (Nat.not_lt_zero _), fun r r' _ hr => absurd hr (Nat.not_lt_zero _)⟩, ⟨fun p hp => absurd hp (Nat.not_lt_zero _), fun r hr => absurd hr (Nat.not_lt_zero _)⟩, ⟨fun x _ => rfl, fun p hp => absurd hp (Nat.not_lt_zero _), fun p n i hp => absurd hp (Nat.not_lt_zero _), fun p _ => rfl⟩, ⟨rfl, rfl, rfl, by decide, by decide, rfl, rfl, rfl, rfl⟩, rfl, by decide, fun i r hi => ?_⟩
  have h : qL gM0.1 0 = [] := rfl
  rw [h] at hi
  simp at hi
