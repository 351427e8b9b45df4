theorem up_n {f : Nat → Int32} {P p : Nat} {x : Int32} (h : ¬ p = P) : upd f P x p = f p := by unfold upd; rw [if_neg h]
theorem up_s {f : Nat → Int32} {P : Nat} {x : Int32} : upd f P x P = x := by unfold upd; rw [if_pos rfl]
set_option maxHeartbeats 4000000 in
theorem st_take {k : Nat} {g h : St} (hk : k ≤ 512) (hR : Rel k g h) {w : Int32} (hw : w = 0 ∨ w = 1) (s n v : Int32) : wp_E_take g w s n v (fun r u => wp_M_come h w s n v (Ow k r u)) := by
  have hR0 := hR
  obtain ⟨P, B, hP, hB, h0, g0, h1, hI, hp, hd, hn, hq⟩ := hR
  obtain ⟨n1, n2, n3, n4, n5, n6, n7, n8, n9⟩ := hn
  unfold wp_E_take
  refine pe_isOnDisk (fun a b c d => ⟨fun _ => ?_, fun z => absurd z (by decide)⟩) (fun a => ⟨fun z => absurd rfl z, fun _ => pm_come_bad a ⟨rfl, Rel_mono hR0⟩⟩)
  have full : (P = 200 ∨ nI (qL h.1 P).length = 24) → wp_M_come h w s n v (Ow k (-2) g) := by
    intro hf
    refine pm_come h0 hP hI a b c d hw (fun _ => ⟨rfl, Rel_mono hR0⟩) (fun z1 z2 => ?_) (fun z1 z2 => ?_)
    · exact absurd hf (fun z => z.elim (fun z => by omega) z2)
    · exact absurd hf (fun z => z.elim (fun z => by omega) z2)
  rw [g0, hq.1]
  refine ⟨fun e => full (Or.inl ((nu_eq (b := 200) (by omega) (by omega)).mp e)), fun e => ⟨fun e2 => ?_, fun e2 => full (Or.inr e2)⟩⟩
  have hP2 : P < 200 := by
    refine Classical.byContradiction (fun z => e ?_)
    have e3 : P = 200 := by omega
    subst e3
    rfl
  have hlen : (qL h.1 P).length < 24 := by
    have h24 := hq.2.1
    refine Classical.byContradiction (fun z => e2 ?_)
    have e3 : (qL h.1 P).length = 24 := by omega
    rw [e3]
    rfl
  obtain ⟨s, n, rfl, rfl, hn1, hn8, hsn⟩ := on_disk a b c d
  have hv : vp_in (nI P) 200 := nu_in hP2 (by omega)
  obtain ⟨hjo, hho⟩ := ho_eq (w := w) (v := v) (bar := h.2.1 1) (s := s) (n := n) hI hP2 hp hd ⟨hn1, hn8, hsn⟩
  refine pe_hostFor g0 hP hq (fun z => pe_add (g := (g.1, g.2.1, z)) hP2 hn8 g0 ?_)
  rw [n6]
  have ar : ∀ j : Nat, AN h.1 (sA (sA (sI (ca_M h.1 P w (nI s) (nI n) v, h.2) 0 (nI (P + 1))) 5 P (nI j)) 6 P 1).1 P j w v s n := by
    intro j
    refine ⟨fun p hpP => ?_, ⟨rfl, rfl, rfl⟩, up_s, up_s, up_s, up_s, up_s, up_s⟩
    have hne : ¬ p = P := by omega
    exact ⟨up_n hne, up_n hne, up_n hne, up_n hne, up_n hne, up_n hne, rfl, rfl⟩
  cases hh : ho_E g.1 (h.2.1 1) P (qL h.1 P) w (nI s) (nI n) with
  | some r =>
    rw [hh] at hjo
    obtain ⟨hr, hrw, hrc⟩ := hho r hh
    have hvr : vp_in (nI r) 200 := nu_in (by omega) (by omega)
    have er : en (some r) = nI r := rfl
    rw [er, nu_cl (i := P) (by omega)]
    refine ⟨fun _ => ⟨hv, ?_⟩, fun z => absurd z (nu_m1 (by omega))⟩
    unfold wp_R_extend
    rw [nu_cl (i := r) (by omega)]
    refine ⟨hvr, hvr, hvr, hvr, hvr, hvr, ?_⟩
    refine pm_come h0 hP hI a b c d hw (fun z => ?_) (fun _ _ z => ?_) (fun _ _ j hj ej => ⟨rfl, ?_⟩)
    · exact absurd z (fun z => z.elim (fun z => by omega) e2)
    · rw [hjo] at z
      exact absurd z (fun z => by have z : r = P := z; omega)
    · have ej : r = j := by rw [hjo] at ej; exact ej
      subst ej
      have hAN := ar r
      have hne : ∀ p, p < P → ¬ p = P := fun p hp => by omega
      refine ⟨P + 1, B, by omega, by omega, rfl, rfl, h1, ?_, ?_, ?_, ⟨n1, n2, n3, n4, n5, n6, n7, n8, n9⟩, ?_⟩
      · refine AN_IM hI hP2 (by omega) hAN hw ⟨hn1, hn8, hsn⟩ (Or.inr ⟨hr, hrw, fun q hq1 hq6 hc => hrc q hq1 hq6 ?_⟩)
        exact hc
      · refine GN_PR hI hP2 hp hAN (v := v) ⟨fun p hpP => ⟨up_n (hne p hpP), up_n (hne p hpP), up_n (hne p hpP), up_n (hne p hpP)⟩, ⟨rfl, rfl, rfl⟩, ⟨up_s, up_s, up_s, up_s⟩, fun q hq1 hqr => ⟨rfl, up_n hqr, up_n hqr, up_n hqr, rfl, rfl⟩, fun _ => ⟨rfl, up_s, up_s, up_s, rfl, rfl⟩, fun z => by omega⟩ (by omega) ⟨hsn, hn1⟩
      · refine GN_DR hI hP2 hd hAN (v := v) ⟨fun p hpP => ⟨up_n (hne p hpP), up_n (hne p hpP), up_n (hne p hpP), up_n (hne p hpP)⟩, ⟨rfl, rfl, rfl⟩, ⟨up_s, up_s, up_s, up_s⟩, fun q hq1 hqr => ⟨rfl, up_n hqr, up_n hqr, up_n hqr, rfl, rfl⟩, fun _ => ⟨rfl, up_s, up_s, up_s, rfl, rfl⟩, fun z => by omega⟩ hn8
      · rw [AN_q hP2 hAN (by omega), if_neg (show ¬ r = P by omega), List.append_nil]
        exact hq
  | none =>
    rw [hh] at hjo
    have hjo : jo_M (ca_M h.1 P w (nI s) (nI n) v) (h.2.1 1) P = P := hjo
    have er : en (none : Option Nat) = -1 := rfl
    rw [er, nu_cl (i := P) (by omega)]
    have hvl : vp_in (nI (qL h.1 P).length) 24 := nu_in hlen (by omega)
    have opn : ∀ z0 : Int32, g.2.1 8 + z0 = h.2.1 2 + h.1 10 w.toNatClampNeg → wb_E_take_94 (fun r u => wp_M_come h w (nI s) (nI n) v (Ow k r u)) (sA (ad_E g.1 P w (nI s) (nI n) v n, va_up g.2.1 0 (nI (P + 1)), z) 4 P (nI P)) w (nI s) (nI n) (nI P) z0 := by
      intro z0 hz0
      unfold wb_E_take_94 wp_R_open
      rw [nu_cl (i := P) (by omega)]
      have ec : ∀ X : St, X.2.1 = va_up g.2.1 0 (nI (P + 1)) → X.2.1 1 = nI (qL h.1 P).length := fun X hX => by rw [hX]; exact hq.1
      refine ⟨hv, hv, hv, hv, hv, hv, ?_, ?_⟩
      · rw [ec _ rfl]; exact hvl
      · rw [ec _ rfl, ec _ rfl, nu_cl (i := (qL h.1 P).length) (by omega)]
        refine pm_come h0 hP hI a b c d hw (fun y => ?_) (fun _ _ _ => ⟨rfl, ?_⟩) (fun _ _ j hj ej => ?_)
        · exact absurd y (fun y => y.elim (fun y => by omega) e2)
        · have hAN : AN h.1 (sA (sA (sA (sA (sI (ca_M h.1 P w (nI s) (nI n) v, h.2) 0 (nI (P + 1))) 5 P (nI P)) 6 P 1) 8 P (h.2.1 2 + h.1 10 w.toNatClampNeg)) 9 P (h.2.1 1)).1 P P w v s n := by
            refine ⟨fun p hpP => ?_, ⟨rfl, rfl, rfl⟩, up_s, up_s, up_s, up_s, up_s, up_s⟩
            have hne : ¬ p = P := by omega
            exact ⟨up_n hne, up_n hne, up_n hne, up_n hne, up_n hne, up_n hne, up_n hne, up_n hne⟩
          have hne : ∀ p, p < P → ¬ p = P := fun p hp => by omega
          have hGN : GN g.1 (sI (sA (sA (sA (sA (sA (sA (sA (sA (ad_E g.1 P w (nI s) (nI n) v n, va_up g.2.1 0 (nI (P + 1)), z) 4 P (nI P)) 7 P w) 8 P (nI s)) 9 P (nI n)) 10 P 1) 11 P (g.2.1 8 + z0)) 12 P (g.2.1 7)) 14 (qL h.1 P).length (nI P)) 1 (nI (qL h.1 P).length + 1)).1 (sA (sA (sA (sA (sI (ca_M h.1 P w (nI s) (nI n) v, h.2) 0 (nI (P + 1))) 5 P (nI P)) 6 P 1) 8 P (h.2.1 2 + h.1 10 w.toNatClampNeg)) 9 P (h.2.1 1)).1 P P w v s n := by
            refine ⟨fun p hpP => ⟨up_n (hne p hpP), up_n (hne p hpP), up_n (hne p hpP), up_n (hne p hpP)⟩, ⟨rfl, rfl, rfl⟩, ⟨up_s, up_s, up_s, up_s⟩, fun q hq1 hqr => ⟨up_n hqr, up_n hqr, up_n hqr, up_n hqr, up_n hqr, up_n hqr⟩, fun y => by omega, fun _ => ⟨up_s, up_s, up_s, up_s, ?_, ?_⟩⟩
            · exact (up_s (f := g.1 11)).trans (hz0.trans (up_s (f := h.1 8)).symm)
            · exact (up_s (f := g.1 12)).trans (n6.trans (up_s (f := h.1 9)).symm)
          refine ⟨P + 1, B, by omega, by omega, rfl, rfl, h1, ?_, ?_, ?_, ⟨n1, n2, n3, n4, n5, n6, n7, n8, n9⟩, ?_⟩
          · refine AN_IM hI hP2 (by omega) hAN hw ⟨hn1, hn8, hsn⟩ (Or.inl ⟨rfl, ?_⟩)
            exact (up_s (f := h.1 9)).trans h1
          · exact GN_PR hI hP2 hp hAN hGN (Nat.le_refl _) ⟨hsn, hn1⟩
          · exact GN_DR hI hP2 hd hAN hGN hn8
          · rw [AN_q hP2 hAN (Nat.le_refl _), if_pos rfl]
            refine ⟨?_, ?_, fun i r hi => ?_⟩
            · rw [List.length_append]
              exact nI_1 _
            · rw [List.length_append]
              show (qL h.1 P).length + 1 ≤ 24
              omega
            · show upd (g.1 14) (qL h.1 P).length (nI P) i = nI r ∧ r < 200
              rcases Nat.lt_or_ge i (qL h.1 P).length with hlt | hge
              · rw [List.getElem?_append_left hlt] at hi
                rw [up_n (by omega)]
                exact hq.2.2 i r hi
              · rw [List.getElem?_append_right hge] at hi
                have hz : i - (qL h.1 P).length < 1 := (List.getElem?_eq_some_iff.mp hi).1
                have ei : i = (qL h.1 P).length := by omega
                rw [show i - (qL h.1 P).length = 0 by omega] at hi
                have er : P = r := Option.some.inj hi
                subst er
                rw [ei]
                exact ⟨up_s, hP2⟩
        · rw [hjo] at ej
          omega
    refine ⟨fun y => absurd rfl y, fun _ => ⟨hv, fun y => opn _ ?_, fun y => opn _ ?_⟩⟩
    · have e1 : w = 1 := hw.resolve_left y
      subst e1
      show g.2.1 8 + g.2.1 6 = h.2.1 2 + h.1 10 1
      rw [n7, n5]
    · subst y
      show g.2.1 8 + g.2.1 5 = h.2.1 2 + h.1 10 0
      rw [n7, n4]
theorem st_read {k : Nat} {g h : St} (hk : k ≤ 512) (hR : Rel k g h) (s n : Int32) : wp_E_read g s n (fun r u => wp_M_read h s n (Ow k r u)) := st_take hk hR (Or.inl rfl) s n 0
theorem st_write {k : Nat} {g h : St} (hk : k ≤ 512) (hR : Rel k g h) (s n v : Int32) : wp_E_write g s n v (fun r u => wp_M_write h s n v (Ow k r u)) := st_take hk hR (Or.inr rfl) s n v
