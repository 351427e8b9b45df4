-- a side's state: arrays, int fields, long fields; and how a step changes it
abbrev St : Type := (Nat → Nat → Int32) × (Nat → Int32) × (Nat → Int64)
def sA (g : St) (k j : Nat) (x : Int32) : St := (va_up g.1 k (upd (g.1 k) j x), g.2)
def sC (g : St) (k : Nat) (f : Nat → Int32) : St := (va_up g.1 k f, g.2)
def sI (g : St) (k : Nat) (x : Int32) : St := (g.1, va_up g.2.1 k x, g.2.2)
def sL (g : St) (k : Nat) (x : Int64) : St := (g.1, g.2.1, va_up g.2.2 k x)
abbrev ty_ (cI cZ : ClassId) : List (ClassId × FieldType) := [(cI, .int), (cZ, .boolean)]
-- a contract: where it starts, where it ends
abbrev CE (ww : St → va_W) (D : va_G) (tys : List (ClassId × FieldType)) (sz : Nat) (g : St) (U : State) : Prop :=
  U.heap.size = sz ∧ va_P D cls_ (ww g) U.heap ∧ va_K D cls_ tys U ∧ va_D (fun _ => True) (ww g) ∧ NW U
abbrev CB (ww : St → va_W) (D : va_G) (tys : List (ClassId × FieldType)) (A : Nat → Prop) (u : St) (t : State) : Prop :=
  va_P D cls_ (ww u) t.heap ∧ va_K D cls_ tys t ∧ va_D A (ww u)
abbrev MT_i (l : Launch) (y : MethodName) (cc : ByteArray) (nL : Nat) (rm : Room) (ww : St → va_W) (D : va_G) (tys : List (ClassId × FieldType)) (sz : Nat) (g : St) (av : List Value) (Q : Int32 → St → Prop) : Prop :=
  Met l y (.code y cc nL (some .int) :: TB) rm (va_Pc av (CE ww D tys sz g)) (va_Qi Q (CB ww D tys (va_A (ww g) sz)) (va_A (ww g) sz)) 0 0 (va_A (ww g) sz)
abbrev MT_z (l : Launch) (y : MethodName) (cc : ByteArray) (nL : Nat) (rm : Room) (ww : St → va_W) (D : va_G) (tys : List (ClassId × FieldType)) (sz : Nat) (g : St) (av : List Value) (Q : Int32 → St → Prop) : Prop :=
  Met l y (.code y cc nL (some .boolean) :: TB) rm (va_Pc av (CE ww D tys sz g)) (va_Qi Q (CB ww D tys (va_A (ww g) sz)) (va_A (ww g) sz)) 0 0 (va_A (ww g) sz)
abbrev MT_l (l : Launch) (y : MethodName) (cc : ByteArray) (nL : Nat) (rm : Room) (ww : St → va_W) (D : va_G) (tys : List (ClassId × FieldType)) (sz : Nat) (g : St) (av : List Value) (Q : Int64 → St → Prop) : Prop :=
  Met l y (.code y cc nL (some .long) :: TB) rm (va_Pc av (CE ww D tys sz g)) (va_Ql Q (CB ww D tys (va_A (ww g) sz)) (va_A (ww g) sz)) 0 0 (va_A (ww g) sz)
abbrev MT_v (l : Launch) (y : MethodName) (cc : ByteArray) (nL : Nat) (rm : Room) (ww : St → va_W) (D : va_G) (tys : List (ClassId × FieldType)) (sz : Nat) (g : St) (av : List Value) (Q : St → Prop) : Prop :=
  Met l y (.code y cc nL none :: TB) rm (va_Pc av (CE ww D tys sz g)) (va_Qv Q (CB ww D tys (va_A (ww g) sz)) (va_A (ww g) sz)) 0 0 (va_A (ww g) sz)
abbrev wE (a : Nat → Nat) (cI cZ : ClassId) (g : St) : va_W := [(a 0, .inr (4, [.ref (a 1), .ref (a 2), .ref (a 9), .ref (a 18), .ref (a 19), .int (g.2.1 5), .int (g.2.1 6), .int (g.2.1 7), .int (g.2.1 8), .int (g.2.1 9), .int (g.2.1 10)])),
  (a 1, .inl (cI, 64, .inl (g.1 0))),
  (a 2, .inr (2, [.ref (a 3), .ref (a 4), .ref (a 5), .ref (a 6), .ref (a 7), .ref (a 8), .int (g.2.1 0)])),
  (a 3, .inl (cI, 200, .inl (g.1 1))),
  (a 4, .inl (cI, 200, .inl (g.1 2))),
  (a 5, .inl (cI, 200, .inl (g.1 3))),
  (a 6, .inl (cI, 200, .inl (g.1 4))),
  (a 7, .inl (cZ, 200, .inl (g.1 5))),
  (a 8, .inl (cI, 1600, .inl (g.1 6))),
  (a 9, .inr (3, [.ref (a 10), .ref (a 11), .ref (a 12), .ref (a 13), .ref (a 14), .ref (a 15), .ref (a 16), .ref (a 17), .int (g.2.1 1)])),
  (a 10, .inl (cI, 200, .inl (g.1 7))),
  (a 11, .inl (cI, 200, .inl (g.1 8))),
  (a 12, .inl (cI, 200, .inl (g.1 9))),
  (a 13, .inl (cI, 200, .inl (g.1 10))),
  (a 14, .inl (cI, 200, .inl (g.1 11))),
  (a 15, .inl (cI, 200, .inl (g.1 12))),
  (a 16, .inl (cZ, 200, .inl (g.1 13))),
  (a 17, .inl (cI, 24, .inl (g.1 14))),
  (a 18, .inr (1, [.long (g.2.2 0), .long (g.2.2 1)])),
  (a 19, .inr (0, [.int (g.2.1 2), .int (g.2.1 3), .int (g.2.1 4)]))]
abbrev wM (a : Nat → Nat) (cI cZ : ClassId) (g : St) : va_W := [(a 0, .inr (5, [.ref (a 1), .int (g.2.1 0), .ref (a 2), .ref (a 3), .ref (a 4), .ref (a 5), .ref (a 6), .ref (a 7), .ref (a 8), .ref (a 9), .ref (a 10), .int (g.2.1 1), .int (g.2.1 2), .ref (a 11), .int (g.2.1 3), .int (g.2.1 4), .int (g.2.1 5), .int (g.2.1 6), .int (g.2.1 7)])),
  (a 1, .inl (cI, 64, .inl (g.1 0))),
  (a 2, .inl (cI, 200, .inl (g.1 1))),
  (a 3, .inl (cI, 200, .inl (g.1 2))),
  (a 4, .inl (cI, 200, .inl (g.1 3))),
  (a 5, .inl (cI, 200, .inl (g.1 4))),
  (a 6, .inl (cI, 200, .inl (g.1 5))),
  (a 7, .inl (cI, 200, .inl (g.1 6))),
  (a 8, .inl (cI, 1600, .inl (g.1 7))),
  (a 9, .inl (cI, 200, .inl (g.1 8))),
  (a 10, .inl (cI, 200, .inl (g.1 9))),
  (a 11, .inl (cI, 2, .inl (g.1 10)))]
theorem pI_E_5 {D : va_G} {a : Nat → Nat} {cI cZ : ClassId} {g : St} {H : Heap} {v : Int32} (h : va_P D cls_ ((wE a cI cZ g).set 0 (a 0, .inr (4, [.ref (a 1), .ref (a 2), .ref (a 9), .ref (a 18), .ref (a 19), .int (g.2.1 5), .int (g.2.1 6), .int (g.2.1 7), .int (g.2.1 8), .int (g.2.1 9), .int (g.2.1 10)].set 5 (.int v)))) H) : va_P D cls_ (wE a cI cZ (sI g 5 v)) H := h
theorem dI_E_5 {A : Nat → Prop} {a : Nat → Nat} {cI cZ : ClassId} {g : St} {v : Int32} (h : va_D A ((wE a cI cZ g).set 0 (a 0, .inr (4, [.ref (a 1), .ref (a 2), .ref (a 9), .ref (a 18), .ref (a 19), .int (g.2.1 5), .int (g.2.1 6), .int (g.2.1 7), .int (g.2.1 8), .int (g.2.1 9), .int (g.2.1 10)].set 5 (.int v))))) : va_D A (wE a cI cZ (sI g 5 v)) := h
theorem pI_E_6 {D : va_G} {a : Nat → Nat} {cI cZ : ClassId} {g : St} {H : Heap} {v : Int32} (h : va_P D cls_ ((wE a cI cZ g).set 0 (a 0, .inr (4, [.ref (a 1), .ref (a 2), .ref (a 9), .ref (a 18), .ref (a 19), .int (g.2.1 5), .int (g.2.1 6), .int (g.2.1 7), .int (g.2.1 8), .int (g.2.1 9), .int (g.2.1 10)].set 6 (.int v)))) H) : va_P D cls_ (wE a cI cZ (sI g 6 v)) H := h
theorem dI_E_6 {A : Nat → Prop} {a : Nat → Nat} {cI cZ : ClassId} {g : St} {v : Int32} (h : va_D A ((wE a cI cZ g).set 0 (a 0, .inr (4, [.ref (a 1), .ref (a 2), .ref (a 9), .ref (a 18), .ref (a 19), .int (g.2.1 5), .int (g.2.1 6), .int (g.2.1 7), .int (g.2.1 8), .int (g.2.1 9), .int (g.2.1 10)].set 6 (.int v))))) : va_D A (wE a cI cZ (sI g 6 v)) := h
theorem pI_E_7 {D : va_G} {a : Nat → Nat} {cI cZ : ClassId} {g : St} {H : Heap} {v : Int32} (h : va_P D cls_ ((wE a cI cZ g).set 0 (a 0, .inr (4, [.ref (a 1), .ref (a 2), .ref (a 9), .ref (a 18), .ref (a 19), .int (g.2.1 5), .int (g.2.1 6), .int (g.2.1 7), .int (g.2.1 8), .int (g.2.1 9), .int (g.2.1 10)].set 7 (.int v)))) H) : va_P D cls_ (wE a cI cZ (sI g 7 v)) H := h
theorem dI_E_7 {A : Nat → Prop} {a : Nat → Nat} {cI cZ : ClassId} {g : St} {v : Int32} (h : va_D A ((wE a cI cZ g).set 0 (a 0, .inr (4, [.ref (a 1), .ref (a 2), .ref (a 9), .ref (a 18), .ref (a 19), .int (g.2.1 5), .int (g.2.1 6), .int (g.2.1 7), .int (g.2.1 8), .int (g.2.1 9), .int (g.2.1 10)].set 7 (.int v))))) : va_D A (wE a cI cZ (sI g 7 v)) := h
theorem pI_E_8 {D : va_G} {a : Nat → Nat} {cI cZ : ClassId} {g : St} {H : Heap} {v : Int32} (h : va_P D cls_ ((wE a cI cZ g).set 0 (a 0, .inr (4, [.ref (a 1), .ref (a 2), .ref (a 9), .ref (a 18), .ref (a 19), .int (g.2.1 5), .int (g.2.1 6), .int (g.2.1 7), .int (g.2.1 8), .int (g.2.1 9), .int (g.2.1 10)].set 8 (.int v)))) H) : va_P D cls_ (wE a cI cZ (sI g 8 v)) H := h
theorem dI_E_8 {A : Nat → Prop} {a : Nat → Nat} {cI cZ : ClassId} {g : St} {v : Int32} (h : va_D A ((wE a cI cZ g).set 0 (a 0, .inr (4, [.ref (a 1), .ref (a 2), .ref (a 9), .ref (a 18), .ref (a 19), .int (g.2.1 5), .int (g.2.1 6), .int (g.2.1 7), .int (g.2.1 8), .int (g.2.1 9), .int (g.2.1 10)].set 8 (.int v))))) : va_D A (wE a cI cZ (sI g 8 v)) := h
theorem pI_E_9 {D : va_G} {a : Nat → Nat} {cI cZ : ClassId} {g : St} {H : Heap} {v : Int32} (h : va_P D cls_ ((wE a cI cZ g).set 0 (a 0, .inr (4, [.ref (a 1), .ref (a 2), .ref (a 9), .ref (a 18), .ref (a 19), .int (g.2.1 5), .int (g.2.1 6), .int (g.2.1 7), .int (g.2.1 8), .int (g.2.1 9), .int (g.2.1 10)].set 9 (.int v)))) H) : va_P D cls_ (wE a cI cZ (sI g 9 v)) H := h
theorem dI_E_9 {A : Nat → Prop} {a : Nat → Nat} {cI cZ : ClassId} {g : St} {v : Int32} (h : va_D A ((wE a cI cZ g).set 0 (a 0, .inr (4, [.ref (a 1), .ref (a 2), .ref (a 9), .ref (a 18), .ref (a 19), .int (g.2.1 5), .int (g.2.1 6), .int (g.2.1 7), .int (g.2.1 8), .int (g.2.1 9), .int (g.2.1 10)].set 9 (.int v))))) : va_D A (wE a cI cZ (sI g 9 v)) := h
theorem pI_E_10 {D : va_G} {a : Nat → Nat} {cI cZ : ClassId} {g : St} {H : Heap} {v : Int32} (h : va_P D cls_ ((wE a cI cZ g).set 0 (a 0, .inr (4, [.ref (a 1), .ref (a 2), .ref (a 9), .ref (a 18), .ref (a 19), .int (g.2.1 5), .int (g.2.1 6), .int (g.2.1 7), .int (g.2.1 8), .int (g.2.1 9), .int (g.2.1 10)].set 10 (.int v)))) H) : va_P D cls_ (wE a cI cZ (sI g 10 v)) H := h
theorem dI_E_10 {A : Nat → Prop} {a : Nat → Nat} {cI cZ : ClassId} {g : St} {v : Int32} (h : va_D A ((wE a cI cZ g).set 0 (a 0, .inr (4, [.ref (a 1), .ref (a 2), .ref (a 9), .ref (a 18), .ref (a 19), .int (g.2.1 5), .int (g.2.1 6), .int (g.2.1 7), .int (g.2.1 8), .int (g.2.1 9), .int (g.2.1 10)].set 10 (.int v))))) : va_D A (wE a cI cZ (sI g 10 v)) := h
theorem pA_E_0 {D : va_G} {a : Nat → Nat} {cI cZ : ClassId} {g : St} {H : Heap} {j : Nat} {x : Int32} (h : va_P D cls_ ((wE a cI cZ g).set 1 (a 1, .inl (cI, 64, .inl (upd (g.1 0) j x)))) H) : va_P D cls_ (wE a cI cZ (sA g 0 j x)) H := h
theorem dA_E_0 {A : Nat → Prop} {a : Nat → Nat} {cI cZ : ClassId} {g : St} {j : Nat} {x : Int32} (h : va_D A ((wE a cI cZ g).set 1 (a 1, .inl (cI, 64, .inl (upd (g.1 0) j x))))) : va_D A (wE a cI cZ (sA g 0 j x)) := h
theorem pC_E_0 {D : va_G} {a : Nat → Nat} {cI cZ : ClassId} {g : St} {H : Heap} {f : Nat → Int32} (h : va_P D cls_ ((wE a cI cZ g).set 1 (a 1, .inl (cI, 64, .inl f))) H) : va_P D cls_ (wE a cI cZ (sC g 0 f)) H := h
theorem dC_E_0 {A : Nat → Prop} {a : Nat → Nat} {cI cZ : ClassId} {g : St} {f : Nat → Int32} (h : va_D A ((wE a cI cZ g).set 1 (a 1, .inl (cI, 64, .inl f)))) : va_D A (wE a cI cZ (sC g 0 f)) := h
theorem pI_E_0 {D : va_G} {a : Nat → Nat} {cI cZ : ClassId} {g : St} {H : Heap} {v : Int32} (h : va_P D cls_ ((wE a cI cZ g).set 2 (a 2, .inr (2, [.ref (a 3), .ref (a 4), .ref (a 5), .ref (a 6), .ref (a 7), .ref (a 8), .int (g.2.1 0)].set 6 (.int v)))) H) : va_P D cls_ (wE a cI cZ (sI g 0 v)) H := h
theorem dI_E_0 {A : Nat → Prop} {a : Nat → Nat} {cI cZ : ClassId} {g : St} {v : Int32} (h : va_D A ((wE a cI cZ g).set 2 (a 2, .inr (2, [.ref (a 3), .ref (a 4), .ref (a 5), .ref (a 6), .ref (a 7), .ref (a 8), .int (g.2.1 0)].set 6 (.int v))))) : va_D A (wE a cI cZ (sI g 0 v)) := h
theorem pA_E_1 {D : va_G} {a : Nat → Nat} {cI cZ : ClassId} {g : St} {H : Heap} {j : Nat} {x : Int32} (h : va_P D cls_ ((wE a cI cZ g).set 3 (a 3, .inl (cI, 200, .inl (upd (g.1 1) j x)))) H) : va_P D cls_ (wE a cI cZ (sA g 1 j x)) H := h
theorem dA_E_1 {A : Nat → Prop} {a : Nat → Nat} {cI cZ : ClassId} {g : St} {j : Nat} {x : Int32} (h : va_D A ((wE a cI cZ g).set 3 (a 3, .inl (cI, 200, .inl (upd (g.1 1) j x))))) : va_D A (wE a cI cZ (sA g 1 j x)) := h
theorem pC_E_1 {D : va_G} {a : Nat → Nat} {cI cZ : ClassId} {g : St} {H : Heap} {f : Nat → Int32} (h : va_P D cls_ ((wE a cI cZ g).set 3 (a 3, .inl (cI, 200, .inl f))) H) : va_P D cls_ (wE a cI cZ (sC g 1 f)) H := h
theorem dC_E_1 {A : Nat → Prop} {a : Nat → Nat} {cI cZ : ClassId} {g : St} {f : Nat → Int32} (h : va_D A ((wE a cI cZ g).set 3 (a 3, .inl (cI, 200, .inl f)))) : va_D A (wE a cI cZ (sC g 1 f)) := h
theorem pA_E_2 {D : va_G} {a : Nat → Nat} {cI cZ : ClassId} {g : St} {H : Heap} {j : Nat} {x : Int32} (h : va_P D cls_ ((wE a cI cZ g).set 4 (a 4, .inl (cI, 200, .inl (upd (g.1 2) j x)))) H) : va_P D cls_ (wE a cI cZ (sA g 2 j x)) H := h
theorem dA_E_2 {A : Nat → Prop} {a : Nat → Nat} {cI cZ : ClassId} {g : St} {j : Nat} {x : Int32} (h : va_D A ((wE a cI cZ g).set 4 (a 4, .inl (cI, 200, .inl (upd (g.1 2) j x))))) : va_D A (wE a cI cZ (sA g 2 j x)) := h
theorem pC_E_2 {D : va_G} {a : Nat → Nat} {cI cZ : ClassId} {g : St} {H : Heap} {f : Nat → Int32} (h : va_P D cls_ ((wE a cI cZ g).set 4 (a 4, .inl (cI, 200, .inl f))) H) : va_P D cls_ (wE a cI cZ (sC g 2 f)) H := h
theorem dC_E_2 {A : Nat → Prop} {a : Nat → Nat} {cI cZ : ClassId} {g : St} {f : Nat → Int32} (h : va_D A ((wE a cI cZ g).set 4 (a 4, .inl (cI, 200, .inl f)))) : va_D A (wE a cI cZ (sC g 2 f)) := h
theorem pA_E_3 {D : va_G} {a : Nat → Nat} {cI cZ : ClassId} {g : St} {H : Heap} {j : Nat} {x : Int32} (h : va_P D cls_ ((wE a cI cZ g).set 5 (a 5, .inl (cI, 200, .inl (upd (g.1 3) j x)))) H) : va_P D cls_ (wE a cI cZ (sA g 3 j x)) H := h
theorem dA_E_3 {A : Nat → Prop} {a : Nat → Nat} {cI cZ : ClassId} {g : St} {j : Nat} {x : Int32} (h : va_D A ((wE a cI cZ g).set 5 (a 5, .inl (cI, 200, .inl (upd (g.1 3) j x))))) : va_D A (wE a cI cZ (sA g 3 j x)) := h
theorem pC_E_3 {D : va_G} {a : Nat → Nat} {cI cZ : ClassId} {g : St} {H : Heap} {f : Nat → Int32} (h : va_P D cls_ ((wE a cI cZ g).set 5 (a 5, .inl (cI, 200, .inl f))) H) : va_P D cls_ (wE a cI cZ (sC g 3 f)) H := h
theorem dC_E_3 {A : Nat → Prop} {a : Nat → Nat} {cI cZ : ClassId} {g : St} {f : Nat → Int32} (h : va_D A ((wE a cI cZ g).set 5 (a 5, .inl (cI, 200, .inl f)))) : va_D A (wE a cI cZ (sC g 3 f)) := h
theorem pA_E_4 {D : va_G} {a : Nat → Nat} {cI cZ : ClassId} {g : St} {H : Heap} {j : Nat} {x : Int32} (h : va_P D cls_ ((wE a cI cZ g).set 6 (a 6, .inl (cI, 200, .inl (upd (g.1 4) j x)))) H) : va_P D cls_ (wE a cI cZ (sA g 4 j x)) H := h
theorem dA_E_4 {A : Nat → Prop} {a : Nat → Nat} {cI cZ : ClassId} {g : St} {j : Nat} {x : Int32} (h : va_D A ((wE a cI cZ g).set 6 (a 6, .inl (cI, 200, .inl (upd (g.1 4) j x))))) : va_D A (wE a cI cZ (sA g 4 j x)) := h
theorem pC_E_4 {D : va_G} {a : Nat → Nat} {cI cZ : ClassId} {g : St} {H : Heap} {f : Nat → Int32} (h : va_P D cls_ ((wE a cI cZ g).set 6 (a 6, .inl (cI, 200, .inl f))) H) : va_P D cls_ (wE a cI cZ (sC g 4 f)) H := h
theorem dC_E_4 {A : Nat → Prop} {a : Nat → Nat} {cI cZ : ClassId} {g : St} {f : Nat → Int32} (h : va_D A ((wE a cI cZ g).set 6 (a 6, .inl (cI, 200, .inl f)))) : va_D A (wE a cI cZ (sC g 4 f)) := h
theorem pA_E_5 {D : va_G} {a : Nat → Nat} {cI cZ : ClassId} {g : St} {H : Heap} {j : Nat} {x : Int32} (h : va_P D cls_ ((wE a cI cZ g).set 7 (a 7, .inl (cZ, 200, .inl (upd (g.1 5) j x)))) H) : va_P D cls_ (wE a cI cZ (sA g 5 j x)) H := h
theorem dA_E_5 {A : Nat → Prop} {a : Nat → Nat} {cI cZ : ClassId} {g : St} {j : Nat} {x : Int32} (h : va_D A ((wE a cI cZ g).set 7 (a 7, .inl (cZ, 200, .inl (upd (g.1 5) j x))))) : va_D A (wE a cI cZ (sA g 5 j x)) := h
theorem pC_E_5 {D : va_G} {a : Nat → Nat} {cI cZ : ClassId} {g : St} {H : Heap} {f : Nat → Int32} (h : va_P D cls_ ((wE a cI cZ g).set 7 (a 7, .inl (cZ, 200, .inl f))) H) : va_P D cls_ (wE a cI cZ (sC g 5 f)) H := h
theorem dC_E_5 {A : Nat → Prop} {a : Nat → Nat} {cI cZ : ClassId} {g : St} {f : Nat → Int32} (h : va_D A ((wE a cI cZ g).set 7 (a 7, .inl (cZ, 200, .inl f)))) : va_D A (wE a cI cZ (sC g 5 f)) := h
theorem pA_E_6 {D : va_G} {a : Nat → Nat} {cI cZ : ClassId} {g : St} {H : Heap} {j : Nat} {x : Int32} (h : va_P D cls_ ((wE a cI cZ g).set 8 (a 8, .inl (cI, 1600, .inl (upd (g.1 6) j x)))) H) : va_P D cls_ (wE a cI cZ (sA g 6 j x)) H := h
theorem dA_E_6 {A : Nat → Prop} {a : Nat → Nat} {cI cZ : ClassId} {g : St} {j : Nat} {x : Int32} (h : va_D A ((wE a cI cZ g).set 8 (a 8, .inl (cI, 1600, .inl (upd (g.1 6) j x))))) : va_D A (wE a cI cZ (sA g 6 j x)) := h
theorem pC_E_6 {D : va_G} {a : Nat → Nat} {cI cZ : ClassId} {g : St} {H : Heap} {f : Nat → Int32} (h : va_P D cls_ ((wE a cI cZ g).set 8 (a 8, .inl (cI, 1600, .inl f))) H) : va_P D cls_ (wE a cI cZ (sC g 6 f)) H := h
theorem dC_E_6 {A : Nat → Prop} {a : Nat → Nat} {cI cZ : ClassId} {g : St} {f : Nat → Int32} (h : va_D A ((wE a cI cZ g).set 8 (a 8, .inl (cI, 1600, .inl f)))) : va_D A (wE a cI cZ (sC g 6 f)) := h
theorem pI_E_1 {D : va_G} {a : Nat → Nat} {cI cZ : ClassId} {g : St} {H : Heap} {v : Int32} (h : va_P D cls_ ((wE a cI cZ g).set 9 (a 9, .inr (3, [.ref (a 10), .ref (a 11), .ref (a 12), .ref (a 13), .ref (a 14), .ref (a 15), .ref (a 16), .ref (a 17), .int (g.2.1 1)].set 8 (.int v)))) H) : va_P D cls_ (wE a cI cZ (sI g 1 v)) H := h
theorem dI_E_1 {A : Nat → Prop} {a : Nat → Nat} {cI cZ : ClassId} {g : St} {v : Int32} (h : va_D A ((wE a cI cZ g).set 9 (a 9, .inr (3, [.ref (a 10), .ref (a 11), .ref (a 12), .ref (a 13), .ref (a 14), .ref (a 15), .ref (a 16), .ref (a 17), .int (g.2.1 1)].set 8 (.int v))))) : va_D A (wE a cI cZ (sI g 1 v)) := h
theorem pA_E_7 {D : va_G} {a : Nat → Nat} {cI cZ : ClassId} {g : St} {H : Heap} {j : Nat} {x : Int32} (h : va_P D cls_ ((wE a cI cZ g).set 10 (a 10, .inl (cI, 200, .inl (upd (g.1 7) j x)))) H) : va_P D cls_ (wE a cI cZ (sA g 7 j x)) H := h
theorem dA_E_7 {A : Nat → Prop} {a : Nat → Nat} {cI cZ : ClassId} {g : St} {j : Nat} {x : Int32} (h : va_D A ((wE a cI cZ g).set 10 (a 10, .inl (cI, 200, .inl (upd (g.1 7) j x))))) : va_D A (wE a cI cZ (sA g 7 j x)) := h
theorem pC_E_7 {D : va_G} {a : Nat → Nat} {cI cZ : ClassId} {g : St} {H : Heap} {f : Nat → Int32} (h : va_P D cls_ ((wE a cI cZ g).set 10 (a 10, .inl (cI, 200, .inl f))) H) : va_P D cls_ (wE a cI cZ (sC g 7 f)) H := h
theorem dC_E_7 {A : Nat → Prop} {a : Nat → Nat} {cI cZ : ClassId} {g : St} {f : Nat → Int32} (h : va_D A ((wE a cI cZ g).set 10 (a 10, .inl (cI, 200, .inl f)))) : va_D A (wE a cI cZ (sC g 7 f)) := h
theorem pA_E_8 {D : va_G} {a : Nat → Nat} {cI cZ : ClassId} {g : St} {H : Heap} {j : Nat} {x : Int32} (h : va_P D cls_ ((wE a cI cZ g).set 11 (a 11, .inl (cI, 200, .inl (upd (g.1 8) j x)))) H) : va_P D cls_ (wE a cI cZ (sA g 8 j x)) H := h
theorem dA_E_8 {A : Nat → Prop} {a : Nat → Nat} {cI cZ : ClassId} {g : St} {j : Nat} {x : Int32} (h : va_D A ((wE a cI cZ g).set 11 (a 11, .inl (cI, 200, .inl (upd (g.1 8) j x))))) : va_D A (wE a cI cZ (sA g 8 j x)) := h
theorem pC_E_8 {D : va_G} {a : Nat → Nat} {cI cZ : ClassId} {g : St} {H : Heap} {f : Nat → Int32} (h : va_P D cls_ ((wE a cI cZ g).set 11 (a 11, .inl (cI, 200, .inl f))) H) : va_P D cls_ (wE a cI cZ (sC g 8 f)) H := h
theorem dC_E_8 {A : Nat → Prop} {a : Nat → Nat} {cI cZ : ClassId} {g : St} {f : Nat → Int32} (h : va_D A ((wE a cI cZ g).set 11 (a 11, .inl (cI, 200, .inl f)))) : va_D A (wE a cI cZ (sC g 8 f)) := h
theorem pA_E_9 {D : va_G} {a : Nat → Nat} {cI cZ : ClassId} {g : St} {H : Heap} {j : Nat} {x : Int32} (h : va_P D cls_ ((wE a cI cZ g).set 12 (a 12, .inl (cI, 200, .inl (upd (g.1 9) j x)))) H) : va_P D cls_ (wE a cI cZ (sA g 9 j x)) H := h
theorem dA_E_9 {A : Nat → Prop} {a : Nat → Nat} {cI cZ : ClassId} {g : St} {j : Nat} {x : Int32} (h : va_D A ((wE a cI cZ g).set 12 (a 12, .inl (cI, 200, .inl (upd (g.1 9) j x))))) : va_D A (wE a cI cZ (sA g 9 j x)) := h
theorem pC_E_9 {D : va_G} {a : Nat → Nat} {cI cZ : ClassId} {g : St} {H : Heap} {f : Nat → Int32} (h : va_P D cls_ ((wE a cI cZ g).set 12 (a 12, .inl (cI, 200, .inl f))) H) : va_P D cls_ (wE a cI cZ (sC g 9 f)) H := h
theorem dC_E_9 {A : Nat → Prop} {a : Nat → Nat} {cI cZ : ClassId} {g : St} {f : Nat → Int32} (h : va_D A ((wE a cI cZ g).set 12 (a 12, .inl (cI, 200, .inl f)))) : va_D A (wE a cI cZ (sC g 9 f)) := h
theorem pA_E_10 {D : va_G} {a : Nat → Nat} {cI cZ : ClassId} {g : St} {H : Heap} {j : Nat} {x : Int32} (h : va_P D cls_ ((wE a cI cZ g).set 13 (a 13, .inl (cI, 200, .inl (upd (g.1 10) j x)))) H) : va_P D cls_ (wE a cI cZ (sA g 10 j x)) H := h
theorem dA_E_10 {A : Nat → Prop} {a : Nat → Nat} {cI cZ : ClassId} {g : St} {j : Nat} {x : Int32} (h : va_D A ((wE a cI cZ g).set 13 (a 13, .inl (cI, 200, .inl (upd (g.1 10) j x))))) : va_D A (wE a cI cZ (sA g 10 j x)) := h
theorem pC_E_10 {D : va_G} {a : Nat → Nat} {cI cZ : ClassId} {g : St} {H : Heap} {f : Nat → Int32} (h : va_P D cls_ ((wE a cI cZ g).set 13 (a 13, .inl (cI, 200, .inl f))) H) : va_P D cls_ (wE a cI cZ (sC g 10 f)) H := h
theorem dC_E_10 {A : Nat → Prop} {a : Nat → Nat} {cI cZ : ClassId} {g : St} {f : Nat → Int32} (h : va_D A ((wE a cI cZ g).set 13 (a 13, .inl (cI, 200, .inl f)))) : va_D A (wE a cI cZ (sC g 10 f)) := h
theorem pA_E_11 {D : va_G} {a : Nat → Nat} {cI cZ : ClassId} {g : St} {H : Heap} {j : Nat} {x : Int32} (h : va_P D cls_ ((wE a cI cZ g).set 14 (a 14, .inl (cI, 200, .inl (upd (g.1 11) j x)))) H) : va_P D cls_ (wE a cI cZ (sA g 11 j x)) H := h
theorem dA_E_11 {A : Nat → Prop} {a : Nat → Nat} {cI cZ : ClassId} {g : St} {j : Nat} {x : Int32} (h : va_D A ((wE a cI cZ g).set 14 (a 14, .inl (cI, 200, .inl (upd (g.1 11) j x))))) : va_D A (wE a cI cZ (sA g 11 j x)) := h
theorem pC_E_11 {D : va_G} {a : Nat → Nat} {cI cZ : ClassId} {g : St} {H : Heap} {f : Nat → Int32} (h : va_P D cls_ ((wE a cI cZ g).set 14 (a 14, .inl (cI, 200, .inl f))) H) : va_P D cls_ (wE a cI cZ (sC g 11 f)) H := h
theorem dC_E_11 {A : Nat → Prop} {a : Nat → Nat} {cI cZ : ClassId} {g : St} {f : Nat → Int32} (h : va_D A ((wE a cI cZ g).set 14 (a 14, .inl (cI, 200, .inl f)))) : va_D A (wE a cI cZ (sC g 11 f)) := h
theorem pA_E_12 {D : va_G} {a : Nat → Nat} {cI cZ : ClassId} {g : St} {H : Heap} {j : Nat} {x : Int32} (h : va_P D cls_ ((wE a cI cZ g).set 15 (a 15, .inl (cI, 200, .inl (upd (g.1 12) j x)))) H) : va_P D cls_ (wE a cI cZ (sA g 12 j x)) H := h
theorem dA_E_12 {A : Nat → Prop} {a : Nat → Nat} {cI cZ : ClassId} {g : St} {j : Nat} {x : Int32} (h : va_D A ((wE a cI cZ g).set 15 (a 15, .inl (cI, 200, .inl (upd (g.1 12) j x))))) : va_D A (wE a cI cZ (sA g 12 j x)) := h
theorem pC_E_12 {D : va_G} {a : Nat → Nat} {cI cZ : ClassId} {g : St} {H : Heap} {f : Nat → Int32} (h : va_P D cls_ ((wE a cI cZ g).set 15 (a 15, .inl (cI, 200, .inl f))) H) : va_P D cls_ (wE a cI cZ (sC g 12 f)) H := h
theorem dC_E_12 {A : Nat → Prop} {a : Nat → Nat} {cI cZ : ClassId} {g : St} {f : Nat → Int32} (h : va_D A ((wE a cI cZ g).set 15 (a 15, .inl (cI, 200, .inl f)))) : va_D A (wE a cI cZ (sC g 12 f)) := h
theorem pA_E_13 {D : va_G} {a : Nat → Nat} {cI cZ : ClassId} {g : St} {H : Heap} {j : Nat} {x : Int32} (h : va_P D cls_ ((wE a cI cZ g).set 16 (a 16, .inl (cZ, 200, .inl (upd (g.1 13) j x)))) H) : va_P D cls_ (wE a cI cZ (sA g 13 j x)) H := h
theorem dA_E_13 {A : Nat → Prop} {a : Nat → Nat} {cI cZ : ClassId} {g : St} {j : Nat} {x : Int32} (h : va_D A ((wE a cI cZ g).set 16 (a 16, .inl (cZ, 200, .inl (upd (g.1 13) j x))))) : va_D A (wE a cI cZ (sA g 13 j x)) := h
theorem pC_E_13 {D : va_G} {a : Nat → Nat} {cI cZ : ClassId} {g : St} {H : Heap} {f : Nat → Int32} (h : va_P D cls_ ((wE a cI cZ g).set 16 (a 16, .inl (cZ, 200, .inl f))) H) : va_P D cls_ (wE a cI cZ (sC g 13 f)) H := h
theorem dC_E_13 {A : Nat → Prop} {a : Nat → Nat} {cI cZ : ClassId} {g : St} {f : Nat → Int32} (h : va_D A ((wE a cI cZ g).set 16 (a 16, .inl (cZ, 200, .inl f)))) : va_D A (wE a cI cZ (sC g 13 f)) := h
theorem pA_E_14 {D : va_G} {a : Nat → Nat} {cI cZ : ClassId} {g : St} {H : Heap} {j : Nat} {x : Int32} (h : va_P D cls_ ((wE a cI cZ g).set 17 (a 17, .inl (cI, 24, .inl (upd (g.1 14) j x)))) H) : va_P D cls_ (wE a cI cZ (sA g 14 j x)) H := h
theorem dA_E_14 {A : Nat → Prop} {a : Nat → Nat} {cI cZ : ClassId} {g : St} {j : Nat} {x : Int32} (h : va_D A ((wE a cI cZ g).set 17 (a 17, .inl (cI, 24, .inl (upd (g.1 14) j x))))) : va_D A (wE a cI cZ (sA g 14 j x)) := h
theorem pC_E_14 {D : va_G} {a : Nat → Nat} {cI cZ : ClassId} {g : St} {H : Heap} {f : Nat → Int32} (h : va_P D cls_ ((wE a cI cZ g).set 17 (a 17, .inl (cI, 24, .inl f))) H) : va_P D cls_ (wE a cI cZ (sC g 14 f)) H := h
theorem dC_E_14 {A : Nat → Prop} {a : Nat → Nat} {cI cZ : ClassId} {g : St} {f : Nat → Int32} (h : va_D A ((wE a cI cZ g).set 17 (a 17, .inl (cI, 24, .inl f)))) : va_D A (wE a cI cZ (sC g 14 f)) := h
theorem pL_E_0 {D : va_G} {a : Nat → Nat} {cI cZ : ClassId} {g : St} {H : Heap} {v : Int64} (h : va_P D cls_ ((wE a cI cZ g).set 18 (a 18, .inr (1, [.long (g.2.2 0), .long (g.2.2 1)].set 0 (.long v)))) H) : va_P D cls_ (wE a cI cZ (sL g 0 v)) H := h
theorem dL_E_0 {A : Nat → Prop} {a : Nat → Nat} {cI cZ : ClassId} {g : St} {v : Int64} (h : va_D A ((wE a cI cZ g).set 18 (a 18, .inr (1, [.long (g.2.2 0), .long (g.2.2 1)].set 0 (.long v))))) : va_D A (wE a cI cZ (sL g 0 v)) := h
theorem pL_E_1 {D : va_G} {a : Nat → Nat} {cI cZ : ClassId} {g : St} {H : Heap} {v : Int64} (h : va_P D cls_ ((wE a cI cZ g).set 18 (a 18, .inr (1, [.long (g.2.2 0), .long (g.2.2 1)].set 1 (.long v)))) H) : va_P D cls_ (wE a cI cZ (sL g 1 v)) H := h
theorem dL_E_1 {A : Nat → Prop} {a : Nat → Nat} {cI cZ : ClassId} {g : St} {v : Int64} (h : va_D A ((wE a cI cZ g).set 18 (a 18, .inr (1, [.long (g.2.2 0), .long (g.2.2 1)].set 1 (.long v))))) : va_D A (wE a cI cZ (sL g 1 v)) := h
theorem pI_E_2 {D : va_G} {a : Nat → Nat} {cI cZ : ClassId} {g : St} {H : Heap} {v : Int32} (h : va_P D cls_ ((wE a cI cZ g).set 19 (a 19, .inr (0, [.int (g.2.1 2), .int (g.2.1 3), .int (g.2.1 4)].set 0 (.int v)))) H) : va_P D cls_ (wE a cI cZ (sI g 2 v)) H := h
theorem dI_E_2 {A : Nat → Prop} {a : Nat → Nat} {cI cZ : ClassId} {g : St} {v : Int32} (h : va_D A ((wE a cI cZ g).set 19 (a 19, .inr (0, [.int (g.2.1 2), .int (g.2.1 3), .int (g.2.1 4)].set 0 (.int v))))) : va_D A (wE a cI cZ (sI g 2 v)) := h
theorem pI_E_3 {D : va_G} {a : Nat → Nat} {cI cZ : ClassId} {g : St} {H : Heap} {v : Int32} (h : va_P D cls_ ((wE a cI cZ g).set 19 (a 19, .inr (0, [.int (g.2.1 2), .int (g.2.1 3), .int (g.2.1 4)].set 1 (.int v)))) H) : va_P D cls_ (wE a cI cZ (sI g 3 v)) H := h
theorem dI_E_3 {A : Nat → Prop} {a : Nat → Nat} {cI cZ : ClassId} {g : St} {v : Int32} (h : va_D A ((wE a cI cZ g).set 19 (a 19, .inr (0, [.int (g.2.1 2), .int (g.2.1 3), .int (g.2.1 4)].set 1 (.int v))))) : va_D A (wE a cI cZ (sI g 3 v)) := h
theorem pI_E_4 {D : va_G} {a : Nat → Nat} {cI cZ : ClassId} {g : St} {H : Heap} {v : Int32} (h : va_P D cls_ ((wE a cI cZ g).set 19 (a 19, .inr (0, [.int (g.2.1 2), .int (g.2.1 3), .int (g.2.1 4)].set 2 (.int v)))) H) : va_P D cls_ (wE a cI cZ (sI g 4 v)) H := h
theorem dI_E_4 {A : Nat → Prop} {a : Nat → Nat} {cI cZ : ClassId} {g : St} {v : Int32} (h : va_D A ((wE a cI cZ g).set 19 (a 19, .inr (0, [.int (g.2.1 2), .int (g.2.1 3), .int (g.2.1 4)].set 2 (.int v))))) : va_D A (wE a cI cZ (sI g 4 v)) := h
theorem pI_M_0 {D : va_G} {a : Nat → Nat} {cI cZ : ClassId} {g : St} {H : Heap} {v : Int32} (h : va_P D cls_ ((wM a cI cZ g).set 0 (a 0, .inr (5, [.ref (a 1), .int (g.2.1 0), .ref (a 2), .ref (a 3), .ref (a 4), .ref (a 5), .ref (a 6), .ref (a 7), .ref (a 8), .ref (a 9), .ref (a 10), .int (g.2.1 1), .int (g.2.1 2), .ref (a 11), .int (g.2.1 3), .int (g.2.1 4), .int (g.2.1 5), .int (g.2.1 6), .int (g.2.1 7)].set 1 (.int v)))) H) : va_P D cls_ (wM a cI cZ (sI g 0 v)) H := h
theorem dI_M_0 {A : Nat → Prop} {a : Nat → Nat} {cI cZ : ClassId} {g : St} {v : Int32} (h : va_D A ((wM a cI cZ g).set 0 (a 0, .inr (5, [.ref (a 1), .int (g.2.1 0), .ref (a 2), .ref (a 3), .ref (a 4), .ref (a 5), .ref (a 6), .ref (a 7), .ref (a 8), .ref (a 9), .ref (a 10), .int (g.2.1 1), .int (g.2.1 2), .ref (a 11), .int (g.2.1 3), .int (g.2.1 4), .int (g.2.1 5), .int (g.2.1 6), .int (g.2.1 7)].set 1 (.int v))))) : va_D A (wM a cI cZ (sI g 0 v)) := h
theorem pI_M_1 {D : va_G} {a : Nat → Nat} {cI cZ : ClassId} {g : St} {H : Heap} {v : Int32} (h : va_P D cls_ ((wM a cI cZ g).set 0 (a 0, .inr (5, [.ref (a 1), .int (g.2.1 0), .ref (a 2), .ref (a 3), .ref (a 4), .ref (a 5), .ref (a 6), .ref (a 7), .ref (a 8), .ref (a 9), .ref (a 10), .int (g.2.1 1), .int (g.2.1 2), .ref (a 11), .int (g.2.1 3), .int (g.2.1 4), .int (g.2.1 5), .int (g.2.1 6), .int (g.2.1 7)].set 11 (.int v)))) H) : va_P D cls_ (wM a cI cZ (sI g 1 v)) H := h
theorem dI_M_1 {A : Nat → Prop} {a : Nat → Nat} {cI cZ : ClassId} {g : St} {v : Int32} (h : va_D A ((wM a cI cZ g).set 0 (a 0, .inr (5, [.ref (a 1), .int (g.2.1 0), .ref (a 2), .ref (a 3), .ref (a 4), .ref (a 5), .ref (a 6), .ref (a 7), .ref (a 8), .ref (a 9), .ref (a 10), .int (g.2.1 1), .int (g.2.1 2), .ref (a 11), .int (g.2.1 3), .int (g.2.1 4), .int (g.2.1 5), .int (g.2.1 6), .int (g.2.1 7)].set 11 (.int v))))) : va_D A (wM a cI cZ (sI g 1 v)) := h
theorem pI_M_2 {D : va_G} {a : Nat → Nat} {cI cZ : ClassId} {g : St} {H : Heap} {v : Int32} (h : va_P D cls_ ((wM a cI cZ g).set 0 (a 0, .inr (5, [.ref (a 1), .int (g.2.1 0), .ref (a 2), .ref (a 3), .ref (a 4), .ref (a 5), .ref (a 6), .ref (a 7), .ref (a 8), .ref (a 9), .ref (a 10), .int (g.2.1 1), .int (g.2.1 2), .ref (a 11), .int (g.2.1 3), .int (g.2.1 4), .int (g.2.1 5), .int (g.2.1 6), .int (g.2.1 7)].set 12 (.int v)))) H) : va_P D cls_ (wM a cI cZ (sI g 2 v)) H := h
theorem dI_M_2 {A : Nat → Prop} {a : Nat → Nat} {cI cZ : ClassId} {g : St} {v : Int32} (h : va_D A ((wM a cI cZ g).set 0 (a 0, .inr (5, [.ref (a 1), .int (g.2.1 0), .ref (a 2), .ref (a 3), .ref (a 4), .ref (a 5), .ref (a 6), .ref (a 7), .ref (a 8), .ref (a 9), .ref (a 10), .int (g.2.1 1), .int (g.2.1 2), .ref (a 11), .int (g.2.1 3), .int (g.2.1 4), .int (g.2.1 5), .int (g.2.1 6), .int (g.2.1 7)].set 12 (.int v))))) : va_D A (wM a cI cZ (sI g 2 v)) := h
theorem pI_M_3 {D : va_G} {a : Nat → Nat} {cI cZ : ClassId} {g : St} {H : Heap} {v : Int32} (h : va_P D cls_ ((wM a cI cZ g).set 0 (a 0, .inr (5, [.ref (a 1), .int (g.2.1 0), .ref (a 2), .ref (a 3), .ref (a 4), .ref (a 5), .ref (a 6), .ref (a 7), .ref (a 8), .ref (a 9), .ref (a 10), .int (g.2.1 1), .int (g.2.1 2), .ref (a 11), .int (g.2.1 3), .int (g.2.1 4), .int (g.2.1 5), .int (g.2.1 6), .int (g.2.1 7)].set 14 (.int v)))) H) : va_P D cls_ (wM a cI cZ (sI g 3 v)) H := h
theorem dI_M_3 {A : Nat → Prop} {a : Nat → Nat} {cI cZ : ClassId} {g : St} {v : Int32} (h : va_D A ((wM a cI cZ g).set 0 (a 0, .inr (5, [.ref (a 1), .int (g.2.1 0), .ref (a 2), .ref (a 3), .ref (a 4), .ref (a 5), .ref (a 6), .ref (a 7), .ref (a 8), .ref (a 9), .ref (a 10), .int (g.2.1 1), .int (g.2.1 2), .ref (a 11), .int (g.2.1 3), .int (g.2.1 4), .int (g.2.1 5), .int (g.2.1 6), .int (g.2.1 7)].set 14 (.int v))))) : va_D A (wM a cI cZ (sI g 3 v)) := h
theorem pI_M_4 {D : va_G} {a : Nat → Nat} {cI cZ : ClassId} {g : St} {H : Heap} {v : Int32} (h : va_P D cls_ ((wM a cI cZ g).set 0 (a 0, .inr (5, [.ref (a 1), .int (g.2.1 0), .ref (a 2), .ref (a 3), .ref (a 4), .ref (a 5), .ref (a 6), .ref (a 7), .ref (a 8), .ref (a 9), .ref (a 10), .int (g.2.1 1), .int (g.2.1 2), .ref (a 11), .int (g.2.1 3), .int (g.2.1 4), .int (g.2.1 5), .int (g.2.1 6), .int (g.2.1 7)].set 15 (.int v)))) H) : va_P D cls_ (wM a cI cZ (sI g 4 v)) H := h
theorem dI_M_4 {A : Nat → Prop} {a : Nat → Nat} {cI cZ : ClassId} {g : St} {v : Int32} (h : va_D A ((wM a cI cZ g).set 0 (a 0, .inr (5, [.ref (a 1), .int (g.2.1 0), .ref (a 2), .ref (a 3), .ref (a 4), .ref (a 5), .ref (a 6), .ref (a 7), .ref (a 8), .ref (a 9), .ref (a 10), .int (g.2.1 1), .int (g.2.1 2), .ref (a 11), .int (g.2.1 3), .int (g.2.1 4), .int (g.2.1 5), .int (g.2.1 6), .int (g.2.1 7)].set 15 (.int v))))) : va_D A (wM a cI cZ (sI g 4 v)) := h
theorem pI_M_5 {D : va_G} {a : Nat → Nat} {cI cZ : ClassId} {g : St} {H : Heap} {v : Int32} (h : va_P D cls_ ((wM a cI cZ g).set 0 (a 0, .inr (5, [.ref (a 1), .int (g.2.1 0), .ref (a 2), .ref (a 3), .ref (a 4), .ref (a 5), .ref (a 6), .ref (a 7), .ref (a 8), .ref (a 9), .ref (a 10), .int (g.2.1 1), .int (g.2.1 2), .ref (a 11), .int (g.2.1 3), .int (g.2.1 4), .int (g.2.1 5), .int (g.2.1 6), .int (g.2.1 7)].set 16 (.int v)))) H) : va_P D cls_ (wM a cI cZ (sI g 5 v)) H := h
theorem dI_M_5 {A : Nat → Prop} {a : Nat → Nat} {cI cZ : ClassId} {g : St} {v : Int32} (h : va_D A ((wM a cI cZ g).set 0 (a 0, .inr (5, [.ref (a 1), .int (g.2.1 0), .ref (a 2), .ref (a 3), .ref (a 4), .ref (a 5), .ref (a 6), .ref (a 7), .ref (a 8), .ref (a 9), .ref (a 10), .int (g.2.1 1), .int (g.2.1 2), .ref (a 11), .int (g.2.1 3), .int (g.2.1 4), .int (g.2.1 5), .int (g.2.1 6), .int (g.2.1 7)].set 16 (.int v))))) : va_D A (wM a cI cZ (sI g 5 v)) := h
theorem pI_M_6 {D : va_G} {a : Nat → Nat} {cI cZ : ClassId} {g : St} {H : Heap} {v : Int32} (h : va_P D cls_ ((wM a cI cZ g).set 0 (a 0, .inr (5, [.ref (a 1), .int (g.2.1 0), .ref (a 2), .ref (a 3), .ref (a 4), .ref (a 5), .ref (a 6), .ref (a 7), .ref (a 8), .ref (a 9), .ref (a 10), .int (g.2.1 1), .int (g.2.1 2), .ref (a 11), .int (g.2.1 3), .int (g.2.1 4), .int (g.2.1 5), .int (g.2.1 6), .int (g.2.1 7)].set 17 (.int v)))) H) : va_P D cls_ (wM a cI cZ (sI g 6 v)) H := h
theorem dI_M_6 {A : Nat → Prop} {a : Nat → Nat} {cI cZ : ClassId} {g : St} {v : Int32} (h : va_D A ((wM a cI cZ g).set 0 (a 0, .inr (5, [.ref (a 1), .int (g.2.1 0), .ref (a 2), .ref (a 3), .ref (a 4), .ref (a 5), .ref (a 6), .ref (a 7), .ref (a 8), .ref (a 9), .ref (a 10), .int (g.2.1 1), .int (g.2.1 2), .ref (a 11), .int (g.2.1 3), .int (g.2.1 4), .int (g.2.1 5), .int (g.2.1 6), .int (g.2.1 7)].set 17 (.int v))))) : va_D A (wM a cI cZ (sI g 6 v)) := h
theorem pI_M_7 {D : va_G} {a : Nat → Nat} {cI cZ : ClassId} {g : St} {H : Heap} {v : Int32} (h : va_P D cls_ ((wM a cI cZ g).set 0 (a 0, .inr (5, [.ref (a 1), .int (g.2.1 0), .ref (a 2), .ref (a 3), .ref (a 4), .ref (a 5), .ref (a 6), .ref (a 7), .ref (a 8), .ref (a 9), .ref (a 10), .int (g.2.1 1), .int (g.2.1 2), .ref (a 11), .int (g.2.1 3), .int (g.2.1 4), .int (g.2.1 5), .int (g.2.1 6), .int (g.2.1 7)].set 18 (.int v)))) H) : va_P D cls_ (wM a cI cZ (sI g 7 v)) H := h
theorem dI_M_7 {A : Nat → Prop} {a : Nat → Nat} {cI cZ : ClassId} {g : St} {v : Int32} (h : va_D A ((wM a cI cZ g).set 0 (a 0, .inr (5, [.ref (a 1), .int (g.2.1 0), .ref (a 2), .ref (a 3), .ref (a 4), .ref (a 5), .ref (a 6), .ref (a 7), .ref (a 8), .ref (a 9), .ref (a 10), .int (g.2.1 1), .int (g.2.1 2), .ref (a 11), .int (g.2.1 3), .int (g.2.1 4), .int (g.2.1 5), .int (g.2.1 6), .int (g.2.1 7)].set 18 (.int v))))) : va_D A (wM a cI cZ (sI g 7 v)) := h
theorem pA_M_0 {D : va_G} {a : Nat → Nat} {cI cZ : ClassId} {g : St} {H : Heap} {j : Nat} {x : Int32} (h : va_P D cls_ ((wM a cI cZ g).set 1 (a 1, .inl (cI, 64, .inl (upd (g.1 0) j x)))) H) : va_P D cls_ (wM a cI cZ (sA g 0 j x)) H := h
theorem dA_M_0 {A : Nat → Prop} {a : Nat → Nat} {cI cZ : ClassId} {g : St} {j : Nat} {x : Int32} (h : va_D A ((wM a cI cZ g).set 1 (a 1, .inl (cI, 64, .inl (upd (g.1 0) j x))))) : va_D A (wM a cI cZ (sA g 0 j x)) := h
theorem pC_M_0 {D : va_G} {a : Nat → Nat} {cI cZ : ClassId} {g : St} {H : Heap} {f : Nat → Int32} (h : va_P D cls_ ((wM a cI cZ g).set 1 (a 1, .inl (cI, 64, .inl f))) H) : va_P D cls_ (wM a cI cZ (sC g 0 f)) H := h
theorem dC_M_0 {A : Nat → Prop} {a : Nat → Nat} {cI cZ : ClassId} {g : St} {f : Nat → Int32} (h : va_D A ((wM a cI cZ g).set 1 (a 1, .inl (cI, 64, .inl f)))) : va_D A (wM a cI cZ (sC g 0 f)) := h
theorem pA_M_1 {D : va_G} {a : Nat → Nat} {cI cZ : ClassId} {g : St} {H : Heap} {j : Nat} {x : Int32} (h : va_P D cls_ ((wM a cI cZ g).set 2 (a 2, .inl (cI, 200, .inl (upd (g.1 1) j x)))) H) : va_P D cls_ (wM a cI cZ (sA g 1 j x)) H := h
theorem dA_M_1 {A : Nat → Prop} {a : Nat → Nat} {cI cZ : ClassId} {g : St} {j : Nat} {x : Int32} (h : va_D A ((wM a cI cZ g).set 2 (a 2, .inl (cI, 200, .inl (upd (g.1 1) j x))))) : va_D A (wM a cI cZ (sA g 1 j x)) := h
theorem pC_M_1 {D : va_G} {a : Nat → Nat} {cI cZ : ClassId} {g : St} {H : Heap} {f : Nat → Int32} (h : va_P D cls_ ((wM a cI cZ g).set 2 (a 2, .inl (cI, 200, .inl f))) H) : va_P D cls_ (wM a cI cZ (sC g 1 f)) H := h
theorem dC_M_1 {A : Nat → Prop} {a : Nat → Nat} {cI cZ : ClassId} {g : St} {f : Nat → Int32} (h : va_D A ((wM a cI cZ g).set 2 (a 2, .inl (cI, 200, .inl f)))) : va_D A (wM a cI cZ (sC g 1 f)) := h
theorem pA_M_2 {D : va_G} {a : Nat → Nat} {cI cZ : ClassId} {g : St} {H : Heap} {j : Nat} {x : Int32} (h : va_P D cls_ ((wM a cI cZ g).set 3 (a 3, .inl (cI, 200, .inl (upd (g.1 2) j x)))) H) : va_P D cls_ (wM a cI cZ (sA g 2 j x)) H := h
theorem dA_M_2 {A : Nat → Prop} {a : Nat → Nat} {cI cZ : ClassId} {g : St} {j : Nat} {x : Int32} (h : va_D A ((wM a cI cZ g).set 3 (a 3, .inl (cI, 200, .inl (upd (g.1 2) j x))))) : va_D A (wM a cI cZ (sA g 2 j x)) := h
theorem pC_M_2 {D : va_G} {a : Nat → Nat} {cI cZ : ClassId} {g : St} {H : Heap} {f : Nat → Int32} (h : va_P D cls_ ((wM a cI cZ g).set 3 (a 3, .inl (cI, 200, .inl f))) H) : va_P D cls_ (wM a cI cZ (sC g 2 f)) H := h
theorem dC_M_2 {A : Nat → Prop} {a : Nat → Nat} {cI cZ : ClassId} {g : St} {f : Nat → Int32} (h : va_D A ((wM a cI cZ g).set 3 (a 3, .inl (cI, 200, .inl f)))) : va_D A (wM a cI cZ (sC g 2 f)) := h
theorem pA_M_3 {D : va_G} {a : Nat → Nat} {cI cZ : ClassId} {g : St} {H : Heap} {j : Nat} {x : Int32} (h : va_P D cls_ ((wM a cI cZ g).set 4 (a 4, .inl (cI, 200, .inl (upd (g.1 3) j x)))) H) : va_P D cls_ (wM a cI cZ (sA g 3 j x)) H := h
theorem dA_M_3 {A : Nat → Prop} {a : Nat → Nat} {cI cZ : ClassId} {g : St} {j : Nat} {x : Int32} (h : va_D A ((wM a cI cZ g).set 4 (a 4, .inl (cI, 200, .inl (upd (g.1 3) j x))))) : va_D A (wM a cI cZ (sA g 3 j x)) := h
theorem pC_M_3 {D : va_G} {a : Nat → Nat} {cI cZ : ClassId} {g : St} {H : Heap} {f : Nat → Int32} (h : va_P D cls_ ((wM a cI cZ g).set 4 (a 4, .inl (cI, 200, .inl f))) H) : va_P D cls_ (wM a cI cZ (sC g 3 f)) H := h
theorem dC_M_3 {A : Nat → Prop} {a : Nat → Nat} {cI cZ : ClassId} {g : St} {f : Nat → Int32} (h : va_D A ((wM a cI cZ g).set 4 (a 4, .inl (cI, 200, .inl f)))) : va_D A (wM a cI cZ (sC g 3 f)) := h
theorem pA_M_4 {D : va_G} {a : Nat → Nat} {cI cZ : ClassId} {g : St} {H : Heap} {j : Nat} {x : Int32} (h : va_P D cls_ ((wM a cI cZ g).set 5 (a 5, .inl (cI, 200, .inl (upd (g.1 4) j x)))) H) : va_P D cls_ (wM a cI cZ (sA g 4 j x)) H := h
theorem dA_M_4 {A : Nat → Prop} {a : Nat → Nat} {cI cZ : ClassId} {g : St} {j : Nat} {x : Int32} (h : va_D A ((wM a cI cZ g).set 5 (a 5, .inl (cI, 200, .inl (upd (g.1 4) j x))))) : va_D A (wM a cI cZ (sA g 4 j x)) := h
theorem pC_M_4 {D : va_G} {a : Nat → Nat} {cI cZ : ClassId} {g : St} {H : Heap} {f : Nat → Int32} (h : va_P D cls_ ((wM a cI cZ g).set 5 (a 5, .inl (cI, 200, .inl f))) H) : va_P D cls_ (wM a cI cZ (sC g 4 f)) H := h
theorem dC_M_4 {A : Nat → Prop} {a : Nat → Nat} {cI cZ : ClassId} {g : St} {f : Nat → Int32} (h : va_D A ((wM a cI cZ g).set 5 (a 5, .inl (cI, 200, .inl f)))) : va_D A (wM a cI cZ (sC g 4 f)) := h
theorem pA_M_5 {D : va_G} {a : Nat → Nat} {cI cZ : ClassId} {g : St} {H : Heap} {j : Nat} {x : Int32} (h : va_P D cls_ ((wM a cI cZ g).set 6 (a 6, .inl (cI, 200, .inl (upd (g.1 5) j x)))) H) : va_P D cls_ (wM a cI cZ (sA g 5 j x)) H := h
theorem dA_M_5 {A : Nat → Prop} {a : Nat → Nat} {cI cZ : ClassId} {g : St} {j : Nat} {x : Int32} (h : va_D A ((wM a cI cZ g).set 6 (a 6, .inl (cI, 200, .inl (upd (g.1 5) j x))))) : va_D A (wM a cI cZ (sA g 5 j x)) := h
theorem pC_M_5 {D : va_G} {a : Nat → Nat} {cI cZ : ClassId} {g : St} {H : Heap} {f : Nat → Int32} (h : va_P D cls_ ((wM a cI cZ g).set 6 (a 6, .inl (cI, 200, .inl f))) H) : va_P D cls_ (wM a cI cZ (sC g 5 f)) H := h
theorem dC_M_5 {A : Nat → Prop} {a : Nat → Nat} {cI cZ : ClassId} {g : St} {f : Nat → Int32} (h : va_D A ((wM a cI cZ g).set 6 (a 6, .inl (cI, 200, .inl f)))) : va_D A (wM a cI cZ (sC g 5 f)) := h
theorem pA_M_6 {D : va_G} {a : Nat → Nat} {cI cZ : ClassId} {g : St} {H : Heap} {j : Nat} {x : Int32} (h : va_P D cls_ ((wM a cI cZ g).set 7 (a 7, .inl (cI, 200, .inl (upd (g.1 6) j x)))) H) : va_P D cls_ (wM a cI cZ (sA g 6 j x)) H := h
theorem dA_M_6 {A : Nat → Prop} {a : Nat → Nat} {cI cZ : ClassId} {g : St} {j : Nat} {x : Int32} (h : va_D A ((wM a cI cZ g).set 7 (a 7, .inl (cI, 200, .inl (upd (g.1 6) j x))))) : va_D A (wM a cI cZ (sA g 6 j x)) := h
theorem pC_M_6 {D : va_G} {a : Nat → Nat} {cI cZ : ClassId} {g : St} {H : Heap} {f : Nat → Int32} (h : va_P D cls_ ((wM a cI cZ g).set 7 (a 7, .inl (cI, 200, .inl f))) H) : va_P D cls_ (wM a cI cZ (sC g 6 f)) H := h
theorem dC_M_6 {A : Nat → Prop} {a : Nat → Nat} {cI cZ : ClassId} {g : St} {f : Nat → Int32} (h : va_D A ((wM a cI cZ g).set 7 (a 7, .inl (cI, 200, .inl f)))) : va_D A (wM a cI cZ (sC g 6 f)) := h
theorem pA_M_7 {D : va_G} {a : Nat → Nat} {cI cZ : ClassId} {g : St} {H : Heap} {j : Nat} {x : Int32} (h : va_P D cls_ ((wM a cI cZ g).set 8 (a 8, .inl (cI, 1600, .inl (upd (g.1 7) j x)))) H) : va_P D cls_ (wM a cI cZ (sA g 7 j x)) H := h
theorem dA_M_7 {A : Nat → Prop} {a : Nat → Nat} {cI cZ : ClassId} {g : St} {j : Nat} {x : Int32} (h : va_D A ((wM a cI cZ g).set 8 (a 8, .inl (cI, 1600, .inl (upd (g.1 7) j x))))) : va_D A (wM a cI cZ (sA g 7 j x)) := h
theorem pC_M_7 {D : va_G} {a : Nat → Nat} {cI cZ : ClassId} {g : St} {H : Heap} {f : Nat → Int32} (h : va_P D cls_ ((wM a cI cZ g).set 8 (a 8, .inl (cI, 1600, .inl f))) H) : va_P D cls_ (wM a cI cZ (sC g 7 f)) H := h
theorem dC_M_7 {A : Nat → Prop} {a : Nat → Nat} {cI cZ : ClassId} {g : St} {f : Nat → Int32} (h : va_D A ((wM a cI cZ g).set 8 (a 8, .inl (cI, 1600, .inl f)))) : va_D A (wM a cI cZ (sC g 7 f)) := h
theorem pA_M_8 {D : va_G} {a : Nat → Nat} {cI cZ : ClassId} {g : St} {H : Heap} {j : Nat} {x : Int32} (h : va_P D cls_ ((wM a cI cZ g).set 9 (a 9, .inl (cI, 200, .inl (upd (g.1 8) j x)))) H) : va_P D cls_ (wM a cI cZ (sA g 8 j x)) H := h
theorem dA_M_8 {A : Nat → Prop} {a : Nat → Nat} {cI cZ : ClassId} {g : St} {j : Nat} {x : Int32} (h : va_D A ((wM a cI cZ g).set 9 (a 9, .inl (cI, 200, .inl (upd (g.1 8) j x))))) : va_D A (wM a cI cZ (sA g 8 j x)) := h
theorem pC_M_8 {D : va_G} {a : Nat → Nat} {cI cZ : ClassId} {g : St} {H : Heap} {f : Nat → Int32} (h : va_P D cls_ ((wM a cI cZ g).set 9 (a 9, .inl (cI, 200, .inl f))) H) : va_P D cls_ (wM a cI cZ (sC g 8 f)) H := h
theorem dC_M_8 {A : Nat → Prop} {a : Nat → Nat} {cI cZ : ClassId} {g : St} {f : Nat → Int32} (h : va_D A ((wM a cI cZ g).set 9 (a 9, .inl (cI, 200, .inl f)))) : va_D A (wM a cI cZ (sC g 8 f)) := h
theorem pA_M_9 {D : va_G} {a : Nat → Nat} {cI cZ : ClassId} {g : St} {H : Heap} {j : Nat} {x : Int32} (h : va_P D cls_ ((wM a cI cZ g).set 10 (a 10, .inl (cI, 200, .inl (upd (g.1 9) j x)))) H) : va_P D cls_ (wM a cI cZ (sA g 9 j x)) H := h
theorem dA_M_9 {A : Nat → Prop} {a : Nat → Nat} {cI cZ : ClassId} {g : St} {j : Nat} {x : Int32} (h : va_D A ((wM a cI cZ g).set 10 (a 10, .inl (cI, 200, .inl (upd (g.1 9) j x))))) : va_D A (wM a cI cZ (sA g 9 j x)) := h
theorem pC_M_9 {D : va_G} {a : Nat → Nat} {cI cZ : ClassId} {g : St} {H : Heap} {f : Nat → Int32} (h : va_P D cls_ ((wM a cI cZ g).set 10 (a 10, .inl (cI, 200, .inl f))) H) : va_P D cls_ (wM a cI cZ (sC g 9 f)) H := h
theorem dC_M_9 {A : Nat → Prop} {a : Nat → Nat} {cI cZ : ClassId} {g : St} {f : Nat → Int32} (h : va_D A ((wM a cI cZ g).set 10 (a 10, .inl (cI, 200, .inl f)))) : va_D A (wM a cI cZ (sC g 9 f)) := h
theorem pA_M_10 {D : va_G} {a : Nat → Nat} {cI cZ : ClassId} {g : St} {H : Heap} {j : Nat} {x : Int32} (h : va_P D cls_ ((wM a cI cZ g).set 11 (a 11, .inl (cI, 2, .inl (upd (g.1 10) j x)))) H) : va_P D cls_ (wM a cI cZ (sA g 10 j x)) H := h
theorem dA_M_10 {A : Nat → Prop} {a : Nat → Nat} {cI cZ : ClassId} {g : St} {j : Nat} {x : Int32} (h : va_D A ((wM a cI cZ g).set 11 (a 11, .inl (cI, 2, .inl (upd (g.1 10) j x))))) : va_D A (wM a cI cZ (sA g 10 j x)) := h
theorem pC_M_10 {D : va_G} {a : Nat → Nat} {cI cZ : ClassId} {g : St} {H : Heap} {f : Nat → Int32} (h : va_P D cls_ ((wM a cI cZ g).set 11 (a 11, .inl (cI, 2, .inl f))) H) : va_P D cls_ (wM a cI cZ (sC g 10 f)) H := h
theorem dC_M_10 {A : Nat → Prop} {a : Nat → Nat} {cI cZ : ClassId} {g : St} {f : Nat → Int32} (h : va_D A ((wM a cI cZ g).set 11 (a 11, .inl (cI, 2, .inl f)))) : va_D A (wM a cI cZ (sC g 10 f)) := h
theorem MTi_of {l : Launch} {y : MethodName} {cc : ByteArray} {nL : Nat} {rm : Room} {ww : St → va_W} {D : va_G} {tys : List (ClassId × FieldType)} {sz : Nat} {g : St} {av : List Value} {Q : Int32 → St → Prop} (hy : plainName y.cls = true) (hlen : (lg_sl av).length ≤ nL)
    (body : ∀ (p : Program) (e : Env) (s : State) (m : MethodId) (args : Array Value) (below : List Frame) (meth : Method) (c : Code) (A : Nat → Prop) (Qt : State → Prop) (ls : Array Slot), p.tables.exec = Jvm.exec → c.code = cc → c.maxLocals = nL → (∀ w ∈ TB, w.before args s = true) → s.vm.findClass y.cls = some m.cls → NW s → va_K D cls_ tys s → va_P D cls_ (ww g) s.heap → va_D A (ww g) → (∀ q : Nat, s.heap.size ≤ q → A q) → lv_has ls nL (lv_args 0 av) →
      (∀ (v : Int32) (u : St) (H : Heap) (locs : List Loc) (pc : Nat) (ls : Array Slot), Q v u → va_P D cls_ (ww u) H → va_D A (ww u) → va_S A s.heap H locs → decode cc pc = .ok (.ireturn, 1) → W p l e rm s m args below meth c H locs 0 0 Qt (F0 m pc ls [.int v])) →
      W p l e rm s m args below meth c s.heap [] 0 0 Qt (F0 m 0 ls [])) : MT_i l y cc nL rm ww D tys sz g av Q := by
  refine Met.ofW (cc := cc) (maxL := nL) (ret := (some .int)) hy rfl ?_
  intro p e s m args below meth c s₁ B hml hv
  obtain ⟨rfl, hsz, hP, hK, hD0, hN⟩ := hv
  have hts := atoms_spec (ws := Cond.code y cc nL (some .int) :: TB) B.pre
  have hown : s.vm.findClass y.cls = some m.cls := findClass_of_methodNamed B.named
  have hlocks := B.notSynchronized
  subst hsz
  have hD := hD0.self (sz := s.heap.size)
  generalize hAe : va_A (ww g) s.heap.size = A at hD ⊢
  have hA : ∀ q : Nat, s.heap.size ≤ q → A q := fun q h => by rw [← hAe]; exact Or.inr h
  have hl := lv_entry av (n := nL) hlen
  rw [lg_entry_eq]
  refine body p e s m _ below meth c A _ _ B.exec B.bytes hml (fun w h => hts w (List.mem_cons_of_mem _ h)) hown hN hK hP hD hA hl ?_
  intro v u H locs pc ls hq hP hD hS hdg
  exact W.iret B.exec B.bytes B.returns (fun t ht hW => ⟨⟨v, u, rfl, hq, by rw [ht]; exact hP, va_K.moved hW.alike hK, hD⟩, hS.F ht⟩) hS.2.2 hdg
theorem MTz_of {l : Launch} {y : MethodName} {cc : ByteArray} {nL : Nat} {rm : Room} {ww : St → va_W} {D : va_G} {tys : List (ClassId × FieldType)} {sz : Nat} {g : St} {av : List Value} {Q : Int32 → St → Prop} (hy : plainName y.cls = true) (hlen : (lg_sl av).length ≤ nL)
    (body : ∀ (p : Program) (e : Env) (s : State) (m : MethodId) (args : Array Value) (below : List Frame) (meth : Method) (c : Code) (A : Nat → Prop) (Qt : State → Prop) (ls : Array Slot), p.tables.exec = Jvm.exec → c.code = cc → c.maxLocals = nL → (∀ w ∈ TB, w.before args s = true) → s.vm.findClass y.cls = some m.cls → NW s → va_K D cls_ tys s → va_P D cls_ (ww g) s.heap → va_D A (ww g) → (∀ q : Nat, s.heap.size ≤ q → A q) → lv_has ls nL (lv_args 0 av) →
      (∀ (v : Int32) (u : St) (H : Heap) (locs : List Loc) (pc : Nat) (ls : Array Slot), narrow .boolean (.int v) = .int v → Q v u → va_P D cls_ (ww u) H → va_D A (ww u) → va_S A s.heap H locs → decode cc pc = .ok (.ireturn, 1) → W p l e rm s m args below meth c H locs 0 0 Qt (F0 m pc ls [.int v])) →
      W p l e rm s m args below meth c s.heap [] 0 0 Qt (F0 m 0 ls [])) : MT_z l y cc nL rm ww D tys sz g av Q := by
  refine Met.ofW (cc := cc) (maxL := nL) (ret := (some .boolean)) hy rfl ?_
  intro p e s m args below meth c s₁ B hml hv
  obtain ⟨rfl, hsz, hP, hK, hD0, hN⟩ := hv
  have hts := atoms_spec (ws := Cond.code y cc nL (some .boolean) :: TB) B.pre
  have hown : s.vm.findClass y.cls = some m.cls := findClass_of_methodNamed B.named
  have hlocks := B.notSynchronized
  subst hsz
  have hD := hD0.self (sz := s.heap.size)
  generalize hAe : va_A (ww g) s.heap.size = A at hD ⊢
  have hA : ∀ q : Nat, s.heap.size ≤ q → A q := fun q h => by rw [← hAe]; exact Or.inr h
  have hl := lv_entry av (n := nL) hlen
  rw [lg_entry_eq]
  refine body p e s m _ below meth c A _ _ B.exec B.bytes hml (fun w h => hts w (List.mem_cons_of_mem _ h)) hown hN hK hP hD hA hl ?_
  intro v u H locs pc ls hn hq hP hD hS hdg
  exact W.zret B.exec B.bytes B.returns hn (fun t ht hW => ⟨⟨v, u, rfl, hq, by rw [ht]; exact hP, va_K.moved hW.alike hK, hD⟩, hS.F ht⟩) hS.2.2 hdg
theorem MTl_of {l : Launch} {y : MethodName} {cc : ByteArray} {nL : Nat} {rm : Room} {ww : St → va_W} {D : va_G} {tys : List (ClassId × FieldType)} {sz : Nat} {g : St} {av : List Value} {Q : Int64 → St → Prop} (hy : plainName y.cls = true) (hlen : (lg_sl av).length ≤ nL)
    (body : ∀ (p : Program) (e : Env) (s : State) (m : MethodId) (args : Array Value) (below : List Frame) (meth : Method) (c : Code) (A : Nat → Prop) (Qt : State → Prop) (ls : Array Slot), p.tables.exec = Jvm.exec → c.code = cc → c.maxLocals = nL → (∀ w ∈ TB, w.before args s = true) → s.vm.findClass y.cls = some m.cls → NW s → va_K D cls_ tys s → va_P D cls_ (ww g) s.heap → va_D A (ww g) → (∀ q : Nat, s.heap.size ≤ q → A q) → lv_has ls nL (lv_args 0 av) →
      (∀ (v : Int64) (u : St) (H : Heap) (locs : List Loc) (pc : Nat) (ls : Array Slot), Q v u → va_P D cls_ (ww u) H → va_D A (ww u) → va_S A s.heap H locs → decode cc pc = .ok (.lreturn, 1) → W p l e rm s m args below meth c H locs 0 0 Qt (F0 m pc ls [.long v])) →
      W p l e rm s m args below meth c s.heap [] 0 0 Qt (F0 m 0 ls [])) : MT_l l y cc nL rm ww D tys sz g av Q := by
  refine Met.ofW (cc := cc) (maxL := nL) (ret := (some .long)) hy rfl ?_
  intro p e s m args below meth c s₁ B hml hv
  obtain ⟨rfl, hsz, hP, hK, hD0, hN⟩ := hv
  have hts := atoms_spec (ws := Cond.code y cc nL (some .long) :: TB) B.pre
  have hown : s.vm.findClass y.cls = some m.cls := findClass_of_methodNamed B.named
  have hlocks := B.notSynchronized
  subst hsz
  have hD := hD0.self (sz := s.heap.size)
  generalize hAe : va_A (ww g) s.heap.size = A at hD ⊢
  have hA : ∀ q : Nat, s.heap.size ≤ q → A q := fun q h => by rw [← hAe]; exact Or.inr h
  have hl := lv_entry av (n := nL) hlen
  rw [lg_entry_eq]
  refine body p e s m _ below meth c A _ _ B.exec B.bytes hml (fun w h => hts w (List.mem_cons_of_mem _ h)) hown hN hK hP hD hA hl ?_
  intro v u H locs pc ls hq hP hD hS hdg
  exact W.lret B.exec B.bytes B.returns (fun t ht hW => ⟨⟨v, u, rfl, hq, by rw [ht]; exact hP, va_K.moved hW.alike hK, hD⟩, hS.F ht⟩) hS.2.2 hdg
theorem MTv_of {l : Launch} {y : MethodName} {cc : ByteArray} {nL : Nat} {rm : Room} {ww : St → va_W} {D : va_G} {tys : List (ClassId × FieldType)} {sz : Nat} {g : St} {av : List Value} {Q : St → Prop} (hy : plainName y.cls = true) (hlen : (lg_sl av).length ≤ nL)
    (body : ∀ (p : Program) (e : Env) (s : State) (m : MethodId) (args : Array Value) (below : List Frame) (meth : Method) (c : Code) (A : Nat → Prop) (Qt : State → Prop) (ls : Array Slot), p.tables.exec = Jvm.exec → c.code = cc → c.maxLocals = nL → (∀ w ∈ TB, w.before args s = true) → s.vm.findClass y.cls = some m.cls → NW s → va_K D cls_ tys s → va_P D cls_ (ww g) s.heap → va_D A (ww g) → (∀ q : Nat, s.heap.size ≤ q → A q) → lv_has ls nL (lv_args 0 av) →
      (∀ (u : St) (H : Heap) (locs : List Loc) (pc : Nat) (ls : Array Slot), Q u → va_P D cls_ (ww u) H → va_D A (ww u) → va_S A s.heap H locs → decode cc pc = .ok (.return_, 1) → W p l e rm s m args below meth c H locs 0 0 Qt (F0 m pc ls [])) →
      W p l e rm s m args below meth c s.heap [] 0 0 Qt (F0 m 0 ls [])) : MT_v l y cc nL rm ww D tys sz g av Q := by
  refine Met.ofW (cc := cc) (maxL := nL) (ret := none) hy rfl ?_
  intro p e s m args below meth c s₁ B hml hv
  obtain ⟨rfl, hsz, hP, hK, hD0, hN⟩ := hv
  have hts := atoms_spec (ws := Cond.code y cc nL none :: TB) B.pre
  have hown : s.vm.findClass y.cls = some m.cls := findClass_of_methodNamed B.named
  have hlocks := B.notSynchronized
  subst hsz
  have hD := hD0.self (sz := s.heap.size)
  generalize hAe : va_A (ww g) s.heap.size = A at hD ⊢
  have hA : ∀ q : Nat, s.heap.size ≤ q → A q := fun q h => by rw [← hAe]; exact Or.inr h
  have hl := lv_entry av (n := nL) hlen
  rw [lg_entry_eq]
  refine body p e s m _ below meth c A _ _ B.exec B.bytes hml (fun w h => hts w (List.mem_cons_of_mem _ h)) hown hN hK hP hD hA hl ?_
  intro u H locs pc ls hq hP hD hS hdg
  exact W.vret B.exec B.bytes B.returns (fun t ht hW => ⟨⟨u, rfl, hq, by rw [ht]; exact hP, va_K.moved hW.alike hK, hD⟩, hS.F ht⟩) hS.2.2 hdg
section AFT
variable {p : Program} {l : Launch} {e : Env} {R : Room} {s : State} {m : MethodId} {args : Array Value} {below : List Frame} {meth : Method} {c : Code} {H : Heap} {locs : List Loc} {cells slots : Nat} {Q : State → Prop}
variable {pc : Nat} {ls : Array Slot} {rest st0 : List Value} {av : Array Value} {A : Nat → Prop} {D : va_G} {tys : List (ClassId × FieldType)} {ww : St → va_W} {g : St}
theorem aft_i {post : Int32 → St → Prop} (hr : va_Run p l e R s m args below meth c H locs cells slots 0 0 (F0 m pc ls st0) rest (va_Qi post (CB ww D tys (va_A (ww g) H.size)) (va_A (ww g) H.size) av) (va_A (ww g) H.size)) (hD : va_D A (ww g)) (hS : va_S A s.heap H locs) (hA : ∀ q : Nat, s.heap.size ≤ q → A q) (hK : va_K D cls_ tys s)
    (kk : ∀ (r : Int32) (u : St) (H1 : Heap) (locs1 : List Loc), post r u → va_P D cls_ (ww u) H1 → va_D A (ww u) → va_S A s.heap H1 locs1 → W p l e R s m args below meth c H1 locs1 cells slots Q (F0 m (pc + 3) ls (.int r :: rest))) : W p l e R s m args below meth c H locs cells slots Q (F0 m pc ls st0) := by
  have hF : ∀ q, va_A (ww g) H.size q → A q := by
    intro q hq
    rcases hq with ⟨k, e, h⟩ | h
    · exact hD.2 k (q, e) h
    · exact hA q (Nat.le_trans hS.1 h)
  refine va_calli hr hS (fun q _ h => hF q h) hF (fun r u t H1 locs1 ht hvm hpost hB hz hk hS1 => ?_)
  obtain ⟨hP1, hK1, hD1⟩ := hB
  rw [ht] at hP1
  exact kk r u H1 locs1 hpost hP1 (hD1.weaken (fun _ q _ h => hF q.1 h)) hS1
theorem aft_l {post : Int64 → St → Prop} (hr : va_Run p l e R s m args below meth c H locs cells slots 0 0 (F0 m pc ls st0) rest (va_Ql post (CB ww D tys (va_A (ww g) H.size)) (va_A (ww g) H.size) av) (va_A (ww g) H.size)) (hD : va_D A (ww g)) (hS : va_S A s.heap H locs) (hA : ∀ q : Nat, s.heap.size ≤ q → A q) (hK : va_K D cls_ tys s)
    (kk : ∀ (r : Int64) (u : St) (H1 : Heap) (locs1 : List Loc), post r u → va_P D cls_ (ww u) H1 → va_D A (ww u) → va_S A s.heap H1 locs1 → W p l e R s m args below meth c H1 locs1 cells slots Q (F0 m (pc + 3) ls (.long r :: rest))) : W p l e R s m args below meth c H locs cells slots Q (F0 m pc ls st0) := by
  have hF : ∀ q, va_A (ww g) H.size q → A q := by
    intro q hq
    rcases hq with ⟨k, e, h⟩ | h
    · exact hD.2 k (q, e) h
    · exact hA q (Nat.le_trans hS.1 h)
  refine va_calll hr hS (fun q _ h => hF q h) hF (fun r u t H1 locs1 ht hvm hpost hB hz hk hS1 => ?_)
  obtain ⟨hP1, hK1, hD1⟩ := hB
  rw [ht] at hP1
  exact kk r u H1 locs1 hpost hP1 (hD1.weaken (fun _ q _ h => hF q.1 h)) hS1
theorem aft_v {post : St → Prop} (hr : va_Run p l e R s m args below meth c H locs cells slots 0 0 (F0 m pc ls st0) rest (va_Qv post (CB ww D tys (va_A (ww g) H.size)) (va_A (ww g) H.size) av) (va_A (ww g) H.size)) (hD : va_D A (ww g)) (hS : va_S A s.heap H locs) (hA : ∀ q : Nat, s.heap.size ≤ q → A q) (hK : va_K D cls_ tys s)
    (kk : ∀ (u : St) (H1 : Heap) (locs1 : List Loc), post u → va_P D cls_ (ww u) H1 → va_D A (ww u) → va_S A s.heap H1 locs1 → W p l e R s m args below meth c H1 locs1 cells slots Q (F0 m (pc + 3) ls (rest))) : W p l e R s m args below meth c H locs cells slots Q (F0 m pc ls st0) := by
  have hF : ∀ q, va_A (ww g) H.size q → A q := by
    intro q hq
    rcases hq with ⟨k, e, h⟩ | h
    · exact hD.2 k (q, e) h
    · exact hA q (Nat.le_trans hS.1 h)
  refine va_callv hr hS (fun q _ h => hF q h) hF (fun u t H1 locs1 ht hvm hpost hB hz hk hS1 => ?_)
  obtain ⟨hP1, hK1, hD1⟩ := hB
  rw [ht] at hP1
  exact kk u H1 locs1 hpost hP1 (hD1.weaken (fun _ q _ h => hF q.1 h)) hS1
theorem preV (q0 ci : Nat) {C : String} {T : u_T} {N : Nat} {fs : List Value} {b : Nat} {As : List Value} (hP : va_P D cls_ (ww g) H) (hD : va_D A (ww g)) (hK : va_K D cls_ tys s) (hN : NW s) (he : (ww g)[q0]? = some (b, .inr (ci, fs))) (hc : cls_[ci]? = some (C, T, N)) : PreV s H C b (va_Pc (.ref b :: As) (CE ww D tys H.size g)) As :=
  ⟨fun a U gg mk q => by obtain ⟨q0, q1, qP, qK, qD, qN⟩ := q; exact ⟨q0, q1, qP, va_K.moved (u := U) (U := U.calling gg mk a) (Vm.Alike.refl U.vm) qK, qD, NW_same (u := U) (U := U.calling gg mk a) rfl qN⟩, va_recv hK hP hc he, fun U hU hW => ⟨rfl, by rw [hU], by rw [hU]; exact hP, va_K.moved hW.alike hK, hD.weaken (fun _ _ _ _ => trivial), NW_warm hW hN⟩⟩
theorem preS {As : List Value} (hP : va_P D cls_ (ww g) H) (hD : va_D A (ww g)) (hK : va_K D cls_ tys s) (hN : NW s) : PreS s H (va_Pc As (CE ww D tys H.size g)) As :=
  ⟨fun a U gg mk q => by obtain ⟨q0, q1, qP, qK, qD, qN⟩ := q; exact ⟨q0, q1, qP, va_K.moved (u := U) (U := U.calling gg mk a) (Vm.Alike.refl U.vm) qK, qD, NW_same (u := U) (U := U.calling gg mk a) rfl qN⟩, fun U hU hW => ⟨rfl, by rw [hU], by rw [hU]; exact hP, va_K.moved hW.alike hK, hD.weaken (fun _ _ _ _ => trivial), NW_warm hW hN⟩⟩
end AFT
-- switches
theorem sw_eq {x : Int32} {k : Int} {y : Int32} (h : x.toInt = k) (hy : y.toInt = k) : x = y := Int32.toInt_inj.mp (h.trans hy.symm)
theorem sw_5 (x : Int32) : (x.toInt < 0 ∨ 4 < x.toInt) ∨ x = 0 ∨ x = 1 ∨ x = 2 ∨ x = 3 ∨ x = 4 := by
  by_cases h : x.toInt < 0 ∨ 4 < x.toInt
  · exact Or.inl h
  · have h5 : x.toInt = 0 ∨ x.toInt = 1 ∨ x.toInt = 2 ∨ x.toInt = 3 ∨ x.toInt = 4 := by omega
    rcases h5 with h | h | h | h | h
    · exact Or.inr (Or.inl (sw_eq h rfl))
    · exact Or.inr (Or.inr (Or.inl (sw_eq h rfl)))
    · exact Or.inr (Or.inr (Or.inr (Or.inl (sw_eq h rfl))))
    · exact Or.inr (Or.inr (Or.inr (Or.inr (Or.inl (sw_eq h rfl)))))
    · exact Or.inr (Or.inr (Or.inr (Or.inr (Or.inr (sw_eq h rfl)))))
theorem wE_ad {a : Nat → Nat} {cI cZ : ClassId} {g : St} {k : Nat} {x : Nat × va_E} (h : (wE a cI cZ g)[k]? = some x) : x.1 = a k ∧ k < 20 := by
  match k, h with
  | 0, h => cases h; exact ⟨rfl, by omega⟩
  | 1, h => cases h; exact ⟨rfl, by omega⟩
  | 2, h => cases h; exact ⟨rfl, by omega⟩
  | 3, h => cases h; exact ⟨rfl, by omega⟩
  | 4, h => cases h; exact ⟨rfl, by omega⟩
  | 5, h => cases h; exact ⟨rfl, by omega⟩
  | 6, h => cases h; exact ⟨rfl, by omega⟩
  | 7, h => cases h; exact ⟨rfl, by omega⟩
  | 8, h => cases h; exact ⟨rfl, by omega⟩
  | 9, h => cases h; exact ⟨rfl, by omega⟩
  | 10, h => cases h; exact ⟨rfl, by omega⟩
  | 11, h => cases h; exact ⟨rfl, by omega⟩
  | 12, h => cases h; exact ⟨rfl, by omega⟩
  | 13, h => cases h; exact ⟨rfl, by omega⟩
  | 14, h => cases h; exact ⟨rfl, by omega⟩
  | 15, h => cases h; exact ⟨rfl, by omega⟩
  | 16, h => cases h; exact ⟨rfl, by omega⟩
  | 17, h => cases h; exact ⟨rfl, by omega⟩
  | 18, h => cases h; exact ⟨rfl, by omega⟩
  | 19, h => cases h; exact ⟨rfl, by omega⟩
  | k + 20, h => cases h
theorem wM_ad {a : Nat → Nat} {cI cZ : ClassId} {g : St} {k : Nat} {x : Nat × va_E} (h : (wM a cI cZ g)[k]? = some x) : x.1 = a k ∧ k < 12 := by
  match k, h with
  | 0, h => cases h; exact ⟨rfl, by omega⟩
  | 1, h => cases h; exact ⟨rfl, by omega⟩
  | 2, h => cases h; exact ⟨rfl, by omega⟩
  | 3, h => cases h; exact ⟨rfl, by omega⟩
  | 4, h => cases h; exact ⟨rfl, by omega⟩
  | 5, h => cases h; exact ⟨rfl, by omega⟩
  | 6, h => cases h; exact ⟨rfl, by omega⟩
  | 7, h => cases h; exact ⟨rfl, by omega⟩
  | 8, h => cases h; exact ⟨rfl, by omega⟩
  | 9, h => cases h; exact ⟨rfl, by omega⟩
  | 10, h => cases h; exact ⟨rfl, by omega⟩
  | 11, h => cases h; exact ⟨rfl, by omega⟩
  | k + 12, h => cases h
theorem apME {a b2 : Nat → Nat} {cI cZ : ClassId} {g h : St} (hab : ∀ i j : Nat, i < 20 → j < 12 → a i ≠ b2 j) : ∀ (k j : Nat) (x y : Nat × va_E), (wM b2 cI cZ h)[k]? = some x → (wE a cI cZ g)[j]? = some y → x.1 ≠ y.1 := by
  intro k j x y hx hy e
  have h1 := wM_ad hx
  have h2 := wE_ad hy
  exact hab j k h2.2 h1.2 (by rw [← h1.1, ← h2.1, e])
theorem apEM {a b2 : Nat → Nat} {cI cZ : ClassId} {g h : St} (hab : ∀ i j : Nat, i < 20 → j < 12 → a i ≠ b2 j) : ∀ (k j : Nat) (x y : Nat × va_E), (wE a cI cZ g)[k]? = some x → (wM b2 cI cZ h)[j]? = some y → x.1 ≠ y.1 := by
  intro k j x y hx hy e
  have h1 := wE_ad hx
  have h2 := wM_ad hy
  exact hab k j h1.2 h2.2 (by rw [← h1.1, ← h2.1, e])
theorem sw_17 (x : Int32) : (x.toInt < 0 ∨ 16 < x.toInt) ∨ x = 0 ∨ x = 1 ∨ x = 2 ∨ x = 3 ∨ x = 4 ∨ x = 5 ∨ x = 6 ∨ x = 7 ∨ x = 8 ∨ x = 9 ∨ x = 10 ∨ x = 11 ∨ x = 12 ∨ x = 13 ∨ x = 14 ∨ x = 15 ∨ x = 16 := by
  by_cases h : x.toInt < 0 ∨ 16 < x.toInt
  · exact Or.inl h
  · have h5 : x.toInt = 0 ∨ x.toInt = 1 ∨ x.toInt = 2 ∨ x.toInt = 3 ∨ x.toInt = 4 ∨ x.toInt = 5 ∨ x.toInt = 6 ∨ x.toInt = 7 ∨ x.toInt = 8 ∨ x.toInt = 9 ∨ x.toInt = 10 ∨ x.toInt = 11 ∨ x.toInt = 12 ∨ x.toInt = 13 ∨ x.toInt = 14 ∨ x.toInt = 15 ∨ x.toInt = 16 := by omega
    rcases h5 with h | h | h | h | h | h | h | h | h | h | h | h | h | h | h | h | h
    · exact Or.inr (Or.inl (sw_eq h rfl))
    · exact Or.inr (Or.inr (Or.inl (sw_eq h rfl)))
    · exact Or.inr (Or.inr (Or.inr (Or.inl (sw_eq h rfl))))
    · exact Or.inr (Or.inr (Or.inr (Or.inr (Or.inl (sw_eq h rfl)))))
    · exact Or.inr (Or.inr (Or.inr (Or.inr (Or.inr (Or.inl (sw_eq h rfl))))))
    · exact Or.inr (Or.inr (Or.inr (Or.inr (Or.inr (Or.inr (Or.inl (sw_eq h rfl)))))))
    · exact Or.inr (Or.inr (Or.inr (Or.inr (Or.inr (Or.inr (Or.inr (Or.inl (sw_eq h rfl))))))))
    · exact Or.inr (Or.inr (Or.inr (Or.inr (Or.inr (Or.inr (Or.inr (Or.inr (Or.inl (sw_eq h rfl)))))))))
    · exact Or.inr (Or.inr (Or.inr (Or.inr (Or.inr (Or.inr (Or.inr (Or.inr (Or.inr (Or.inl (sw_eq h rfl))))))))))
    · exact Or.inr (Or.inr (Or.inr (Or.inr (Or.inr (Or.inr (Or.inr (Or.inr (Or.inr (Or.inr (Or.inl (sw_eq h rfl)))))))))))
    · exact Or.inr (Or.inr (Or.inr (Or.inr (Or.inr (Or.inr (Or.inr (Or.inr (Or.inr (Or.inr (Or.inr (Or.inl (sw_eq h rfl))))))))))))
    · exact Or.inr (Or.inr (Or.inr (Or.inr (Or.inr (Or.inr (Or.inr (Or.inr (Or.inr (Or.inr (Or.inr (Or.inr (Or.inl (sw_eq h rfl)))))))))))))
    · exact Or.inr (Or.inr (Or.inr (Or.inr (Or.inr (Or.inr (Or.inr (Or.inr (Or.inr (Or.inr (Or.inr (Or.inr (Or.inr (Or.inl (sw_eq h rfl))))))))))))))
    · exact Or.inr (Or.inr (Or.inr (Or.inr (Or.inr (Or.inr (Or.inr (Or.inr (Or.inr (Or.inr (Or.inr (Or.inr (Or.inr (Or.inr (Or.inl (sw_eq h rfl)))))))))))))))
    · exact Or.inr (Or.inr (Or.inr (Or.inr (Or.inr (Or.inr (Or.inr (Or.inr (Or.inr (Or.inr (Or.inr (Or.inr (Or.inr (Or.inr (Or.inr (Or.inl (sw_eq h rfl))))))))))))))))
    · exact Or.inr (Or.inr (Or.inr (Or.inr (Or.inr (Or.inr (Or.inr (Or.inr (Or.inr (Or.inr (Or.inr (Or.inr (Or.inr (Or.inr (Or.inr (Or.inr (Or.inl (sw_eq h rfl)))))))))))))))))
    · exact Or.inr (Or.inr (Or.inr (Or.inr (Or.inr (Or.inr (Or.inr (Or.inr (Or.inr (Or.inr (Or.inr (Or.inr (Or.inr (Or.inr (Or.inr (Or.inr (Or.inr (sw_eq h rfl)))))))))))))))))
-- two arrays of one kind have one component
theorem arr_eqI {D : va_G} {tys : List (ClassId × FieldType)} {s : State} (hK : va_K D cls_ tys s) (i j : Nat) {c1 c2 : ClassId} (h1 : tys[i]? = some (c1, .int)) (h2 : tys[j]? = some (c2, .int)) : c1 = c2 :=
  Option.some.inj (((hK.2 i _ h1).2 : s.vm.findClass _ = some c1).symm.trans ((hK.2 j _ h2).2 : s.vm.findClass _ = some c2))
theorem arr_eqZ {D : va_G} {tys : List (ClassId × FieldType)} {s : State} (hK : va_K D cls_ tys s) (i j : Nat) {c1 c2 : ClassId} (h1 : tys[i]? = some (c1, .boolean)) (h2 : tys[j]? = some (c2, .boolean)) : c1 = c2 :=
  Option.some.inj (((hK.2 i _ h1).2 : s.vm.findClass _ = some c1).symm.trans ((hK.2 j _ h2).2 : s.vm.findClass _ = some c2))
-- a constructor's start
theorem preI {s : State} {H : Heap} {A : Nat → Prop} {D : va_G} {ws : va_W} {b : Nat} (hP : va_P D cls_ ws H) (hD : va_D A ws) (hK : va_K D cls_ [] s) (hN : NW s) : PreS s H (va_Pc [.ref b] (fun U => U.heap.size = H.size ∧ va_P D cls_ ws U.heap ∧ va_K D cls_ [] U ∧ va_D (fun _ => True) ws ∧ NW U)) [.ref b] :=
  ⟨fun a U gg mk q => by obtain ⟨q0, q1, qP, qK, qD, qN⟩ := q; exact ⟨q0, q1, qP, va_K.moved (u := U) (U := U.calling gg mk a) (Vm.Alike.refl U.vm) qK, qD, NW_same (u := U) (U := U.calling gg mk a) rfl qN⟩, fun U hU hW => ⟨rfl, by rw [hU], by rw [hU]; exact hP, va_K.moved hW.alike hK, hD.weaken (fun _ _ _ _ => trivial), NW_warm hW hN⟩⟩
-- the law: a call beside cells that stay
theorem aft2_i {p : Program} {l : Launch} {e : Env} {R : Room} {s : State} {m : MethodId} {args : Array Value} {below : List Frame} {meth : Method} {c : Code} {H : Heap} {locs : List Loc} {cells slots : Nat} {Q : State → Prop} {pc : Nat} {ls : Array Slot} {rest st0 : List Value} {av : Array Value} {A : Nat → Prop} {D : va_G} {tys : List (ClassId × FieldType)} {ww : St → va_W} {g : St} {vv : va_W} {post : Int32 → St → Prop}
    (hr : va_Run p l e R s m args below meth c H locs cells slots 0 0 (F0 m pc ls st0) rest (va_Qi post (CB ww D tys (va_A (ww g) H.size)) (va_A (ww g) H.size) av) (va_A (ww g) H.size)) (hD : va_D A (ww g)) (hS : va_S A s.heap H locs) (hA : ∀ q : Nat, s.heap.size ≤ q → A q) (hV : va_P D cls_ vv H) (hap : ∀ (k j : Nat) (x y : Nat × va_E), vv[k]? = some x → (ww g)[j]? = some y → x.1 ≠ y.1)
    (kk : ∀ (r : Int32) (u : St) (H1 : Heap) (locs1 : List Loc), post r u → va_P D cls_ (ww u) H1 → va_D A (ww u) → va_P D cls_ vv H1 → va_S A s.heap H1 locs1 → W p l e R s m args below meth c H1 locs1 cells slots Q (F0 m (pc + 3) ls (.int r :: rest))) : W p l e R s m args below meth c H locs cells slots Q (F0 m pc ls st0) := by
  have hF : ∀ q, va_A (ww g) H.size q → A q := by
    intro q hq
    rcases hq with ⟨k, e, h⟩ | h
    · exact hD.2 k (q, e) h
    · exact hA q (Nat.le_trans hS.1 h)
  refine va_calli hr hS (fun q _ h => hF q h) hF (fun r u t H1 locs1 ht hvm hpost hB hz hk hS1 => ?_)
  obtain ⟨hP1, hK1, hD1⟩ := hB
  rw [ht] at hP1
  refine kk r u H1 locs1 hpost hP1 (hD1.weaken (fun _ q _ h => hF q.1 h)) (hV.kept (fun k x hx => hk x.1 (hV k x hx).lt ?_)) hS1
  intro h
  rcases h with ⟨j, e, h⟩ | h
  · exact hap k j x (x.1, e) hx h rfl
  · exact absurd (hV k x hx).lt (Nat.not_lt.mpr h)
-- the law's own numbers
theorem law_fit {L k : Nat} (hL : L ≤ 2048) (hk : k ≤ 512) (hc : ¬ Int32.ofNat L - 4 < nI (4 * k)) : 4 * k + 4 ≤ L := by
  have h1 : (Int32.ofNat L - 4 : Int32) = nI L - nI 4 := rfl
  rw [h1, Int32.lt_iff_toInt_lt, pk_sub_toInt (by omega) (by omega), nI_toInt (by omega)] at hc
  omega
theorem law_in {L k : Nat} (j : Nat) (h : 4 * k + j < L) (hL : L < 2 ^ 31) {x : Int32} (hx : x = nI (4 * k + j) := by first | rfl | (rw [← nI_add]; rfl)) : vp_in x L := by
  rw [hx]
  exact vp_in_nI h hL
theorem law_inc (k : Nat) : nI (4 * k) + Int32.ofInt 4 = nI (4 * (k + 1)) := by
  have h : nI (4 * (k + 1)) = nI (4 * k) + nI 4 := by rw [nI_add]; rfl
  rw [h]
  rfl
