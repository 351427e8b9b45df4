-- a part comes
theorem sA_1 (g : St) (k j : Nat) (x : Int32) (i : Nat) : (sA g k j x).1 i = if i = k then upd (g.1 k) j x else g.1 i := by
  show va_up g.1 k _ i = _
  rfl
theorem sA_2 (g : St) (k j : Nat) (x : Int32) : (sA g k j x).2 = g.2 := rfl
theorem sI_1 (g : St) (k : Nat) (x : Int32) : (sI g k x).1 = g.1 := rfl
theorem on_disk {s n : Int32} (h1 : ¬ n < 1) (h2 : ¬ 8 < n) (h3 : ¬ s < 0) (h4 : ¬ 64 - n < s) : ∃ s' n' : Nat, s = nI s' ∧ n = nI n' ∧ 1 ≤ n' ∧ n' ≤ 8 ∧ s' + n' ≤ 64 := by
  have h5 : ¬ n < 0 := by
    rw [Int32.lt_iff_toInt_lt] at h1 ⊢
    have t0 : (0 : Int32).toInt = 0 := by decide
    have t1 : (1 : Int32).toInt = 1 := by decide
    omega
  obtain ⟨n', hn, rfl⟩ := nI_of2 (M := 8) (n := 8) (by decide) h5 (Int32.not_lt.mp h2)
  have h6 : 1 ≤ n' := by
    refine Classical.byContradiction (fun z => h1 ?_)
    have e : n' = 0 := by omega
    subst e
    decide
  have e : (64 : Int32) - nI n' = nI (64 - n') := pk_sub (a := 64) (b := n') (by omega)
  rw [e] at h4
  obtain ⟨s', hs, rfl⟩ := nI_of2 (M := nI (64 - n')) (n := 64 - n') (nI_toInt (by omega)) h3 (Int32.not_lt.mp h4)
  exact ⟨s', n', rfl, rfl, h6, hn, by omega⟩
/-- v, v + 1, .. from a place on -/
def wr_F (f : Nat → Int32) (s : Nat) (v : Int32) (i : Nat) : Nat → Int32 := fun x => if s ≤ x ∧ x < s + i then v + nI (x - s) else f x
theorem wr_0 (f : Nat → Int32) (s : Nat) (v : Int32) : wr_F f s v 0 = f := by
  funext x
  unfold wr_F
  rw [if_neg (by omega)]
theorem wr_s (f : Nat → Int32) (s : Nat) (v : Int32) (i : Nat) : upd (wr_F f s v i) (s + i) (v + nI i) = wr_F f s v (i + 1) := by
  funext x
  unfold upd wr_F
  by_cases h : x = s + i
  · rw [if_pos h, if_pos (by omega), h]
    congr 2
    omega
  · rw [if_neg h]
    by_cases h2 : s ≤ x ∧ x < s + i
    · rw [if_pos h2, if_pos (by omega)]
    · rw [if_neg h2, if_neg (by omega)]
theorem pe_add_loop {P n : Nat} {v : Int32} {Q : Int32 → St → Prop} {G : Nat → Nat → Int32} {V : Nat → Int32} {w : Nat → Int64} (hP : P < 200) (hn : n ≤ 8) (hV : V 0 = nI P) (hq : Q (nI P) (va_up G 6 (wr_F (G 6) (8 * P) v n), va_up V 0 (nI (P + 1)), w)) : ∀ (d i m : Nat), i + d = n → d < m → wl_P_add_33 Q m (va_up G 6 (wr_F (G 6) (8 * P) v i), V, w) (nI n) v (nI P) (nI i) := by
  intro d
  induction d with
  | zero =>
    intro i m hi hm
    obtain ⟨m, rfl⟩ : ∃ k, m = k + 1 := ⟨m - 1, by omega⟩
    have e : i = n := by omega
    subst e
    rw [wl_P_add_33]
    refine ⟨fun _ => ?_, fun hc => absurd ((nu_le (by omega) (by omega)).mpr (by omega)) hc⟩
    have e2 : sI (va_up G 6 (wr_F (G 6) (8 * P) v i), V, w) 0 (V 0 + 1) = (va_up G 6 (wr_F (G 6) (8 * P) v i), va_up V 0 (nI (P + 1)), w) := by
      unfold sI
      rw [hV, nI_1]
    show Q (nI P) (sI (va_up G 6 (wr_F (G 6) (8 * P) v i), V, w) 0 (V 0 + 1))
    rw [e2]
    exact hq
  | succ d ih =>
    intro i m hi hm
    obtain ⟨m, rfl⟩ : ∃ k, m = k + 1 := ⟨m - 1, by omega⟩
    have e : (nI P * 8) + nI i = nI (8 * P + i) := by rw [← nI_add, Nat.mul_comm, ← pk_mul]; rfl
    rw [wl_P_add_33, e, nu_cl (by omega)]
    refine ⟨fun hc => absurd ((nu_le (by omega) (by omega)).mp hc) (by omega), fun _ => ⟨nu_in (by omega) (by omega), ?_⟩⟩
    have e2 : sA (va_up G 6 (wr_F (G 6) (8 * P) v i), V, w) 6 (8 * P + i) (v + nI i) = (va_up G 6 (wr_F (G 6) (8 * P) v (i + 1)), V, w) := by
      unfold sA
      dsimp only
      have e3 : va_up G 6 (wr_F (G 6) (8 * P) v i) 6 = wr_F (G 6) (8 * P) v i := by simp [va_up]
      rw [e3, wr_s, up_2]
    rw [e2, nI_1]
    exact ih (i + 1) m (by omega) (by omega)
/-- the component's arrays behind Parts.add -/
def ad_E (G : Nat → Nat → Int32) (P : Nat) (w s n v : Int32) (n' : Nat) : Nat → Nat → Int32 := va_up (va_up (va_up (va_up G 1 (upd (G 1) P w)) 2 (upd (G 2) P s)) 3 (upd (G 3) P n)) 6 (wr_F (G 6) (8 * P) v n')
theorem pe_add {g : St} {P n : Nat} {w s v : Int32} {Q : Int32 → St → Prop} (hP : P < 200) (hn : n ≤ 8) (g0 : g.2.1 0 = nI P) (hq : Q (nI P) (ad_E g.1 P w s (nI n) v n, va_up g.2.1 0 (nI (P + 1)), g.2.2)) : wp_P_add g w s (nI n) v Q := by
  have hv : vp_in (nI P) 200 := nu_in hP (by omega)
  unfold wp_P_add
  rw [g0, nu_cl (by omega)]
  refine ⟨hv, hv, hv, n + 1, ?_⟩
  have e : sA (sA (sA g 1 P w) 2 P s) 3 P (nI n) = (va_up (va_up (va_up (va_up g.1 1 (upd (g.1 1) P w)) 2 (upd (g.1 2) P s)) 3 (upd (g.1 3) P (nI n))) 6 (wr_F (g.1 6) (8 * P) v 0), g.2.1, g.2.2) := by
    rw [wr_0]
    unfold sA
    congr 1
    funext j
    unfold va_up
    by_cases h6 : j = 6
    · subst h6; rfl
    · rw [if_neg h6]; rfl
  rw [e]
  have e6 : (va_up (va_up (va_up g.1 1 (upd (g.1 1) P w)) 2 (upd (g.1 2) P s)) 3 (upd (g.1 3) P (nI n))) 6 = g.1 6 := rfl
  have h := pe_add_loop (P := P) (n := n) (v := v) (Q := Q) (G := va_up (va_up (va_up g.1 1 (upd (g.1 1) P w)) 2 (upd (g.1 2) P s)) 3 (upd (g.1 3) P (nI n))) (V := g.2.1) (w := g.2.2) hP hn g0 (by rw [e6]; exact hq) n 0 (n + 1) (by omega) (by omega)
  rw [e6] at h
  exact h
-- find over a filtered list
theorem find_filter {f a b : Nat → Bool} (S : List Nat) (h : ∀ r, r ∈ S → (f r && a r) = b r) : (S.filter f).find? a = S.find? b := by
  induction S with
  | nil => rfl
  | cons x S ih =>
    have ih := ih (fun r hr => h r (List.mem_cons_of_mem _ hr))
    have hx := h x List.mem_cons_self
    cases hf : f x with
    | false =>
      rw [List.filter_cons_of_neg (by simp [hf]), ih]
      have hb : b x = false := by rw [← hx, hf]; rfl
      simp [List.find?, hb]
    | true =>
      rw [List.filter_cons_of_pos (by simp [hf])]
      have hb : a x = b x := by rw [← hx, hf]; rfl
      simp [List.find?, hb, ih]
-- folds over the parts before P know nothing of P
theorem fold_lt {α : Type} {f f' : α → Nat → α} {P : Nat} (h : ∀ b p, p < P → f b p = f' b p) : ∀ (d i : Nat) (b : α), i + d ≤ P → (List.range' i d).foldl f b = (List.range' i d).foldl f' b := by
  intro d
  induction d with
  | zero => intro i b _; rfl
  | succ d ih =>
    intro i b hi
    show (List.range' (i + 1) d).foldl f (f b i) = (List.range' (i + 1) d).foldl f' (f' b i)
    rw [h b i (by omega)]
    exact ih (i + 1) _ (by omega)
theorem fold_1 {α : Type} {f : α → Nat → α} {P : Nat} {b : α} : (List.range' 0 (P + 1)).foldl f b = f ((List.range' 0 P).foldl f b) P := by
  rw [List.range'_1_concat, List.foldl_append]
  simp
