/-! An abstract machine over the kit's rows: the heap as functions of a cell's number (its address less the base) and a place. -/
abbrev Am_H : Type := (Nat → Nat × Nat) × (Nat → Nat → Int32) × (Nat → Nat → Int64) × (Nat → Nat → Option Nat) × Nat
def am_S (h : Am_H) : Nat → Nat × Nat := h.1
def am_I (h : Am_H) : Nat → Nat → Int32 := h.2.1
def am_L (h : Am_H) : Nat → Nat → Int64 := h.2.2.1
def am_P (h : Am_H) : Nat → Nat → Option Nat := h.2.2.2.1
def am_N (h : Am_H) : Nat := h.2.2.2.2
def am_wI (h : Am_H) (o k : Nat) (x : Int32) : Am_H := (h.1, fun q j => if q = o ∧ j = k then x else h.2.1 q j, h.2.2)
def am_wL (h : Am_H) (o k : Nat) (x : Int64) : Am_H := (h.1, h.2.1, fun q j => if q = o ∧ j = k then x else h.2.2.1 q j, h.2.2.2)
def am_wP (h : Am_H) (o k : Nat) (x : Option Nat) : Am_H := (h.1, h.2.1, h.2.2.1, fun q j => if q = o ∧ j = k then x else h.2.2.2.1 q j, h.2.2.2.2)
/-- a new cell of a shape, all zero -/
def am_nw (h : Am_H) (sh : Nat × Nat) : Am_H := (fun q => if q = am_N h then sh else h.1 q, fun q j => if q = am_N h then 0 else h.2.1 q j, fun q j => if q = am_N h then 0 else h.2.2.1 q j, fun q j => if q = am_N h then none else h.2.2.2.1 q j, am_N h + 1)
/-- more cells that nobody names -/
def am_skip (h : Am_H) (n : Nat) : Am_H := (h.1, h.2.1, h.2.2.1, h.2.2.2.1, n)
theorem am_S_wI (h : Am_H) (o k : Nat) (x : Int32) : am_S (am_wI h o k x) = am_S h := rfl
theorem am_S_wL (h : Am_H) (o k : Nat) (x : Int64) : am_S (am_wL h o k x) = am_S h := rfl
theorem am_S_wP (h : Am_H) (o k : Nat) (x : Option Nat) : am_S (am_wP h o k x) = am_S h := rfl
theorem am_N_wI (h : Am_H) (o k : Nat) (x : Int32) : am_N (am_wI h o k x) = am_N h := rfl
theorem am_N_wL (h : Am_H) (o k : Nat) (x : Int64) : am_N (am_wL h o k x) = am_N h := rfl
theorem am_N_wP (h : Am_H) (o k : Nat) (x : Option Nat) : am_N (am_wP h o k x) = am_N h := rfl
theorem am_L_wI (h : Am_H) (o k : Nat) (x : Int32) : am_L (am_wI h o k x) = am_L h := rfl
theorem am_P_wI (h : Am_H) (o k : Nat) (x : Int32) : am_P (am_wI h o k x) = am_P h := rfl
theorem am_I_wL (h : Am_H) (o k : Nat) (x : Int64) : am_I (am_wL h o k x) = am_I h := rfl
theorem am_P_wL (h : Am_H) (o k : Nat) (x : Int64) : am_P (am_wL h o k x) = am_P h := rfl
theorem am_I_wP (h : Am_H) (o k : Nat) (x : Option Nat) : am_I (am_wP h o k x) = am_I h := rfl
theorem am_L_wP (h : Am_H) (o k : Nat) (x : Option Nat) : am_L (am_wP h o k x) = am_L h := rfl
theorem am_I_wI (h : Am_H) (o k : Nat) (x : Int32) (q j : Nat) : am_I (am_wI h o k x) q j = if q = o ∧ j = k then x else am_I h q j := rfl
theorem am_L_wL (h : Am_H) (o k : Nat) (x : Int64) (q j : Nat) : am_L (am_wL h o k x) q j = if q = o ∧ j = k then x else am_L h q j := rfl
theorem am_P_wP (h : Am_H) (o k : Nat) (x : Option Nat) (q j : Nat) : am_P (am_wP h o k x) q j = if q = o ∧ j = k then x else am_P h q j := rfl
theorem am_S_skip (h : Am_H) (n : Nat) : am_S (am_skip h n) = am_S h := rfl
theorem am_I_skip (h : Am_H) (n : Nat) : am_I (am_skip h n) = am_I h := rfl
theorem am_L_skip (h : Am_H) (n : Nat) : am_L (am_skip h n) = am_L h := rfl
theorem am_P_skip (h : Am_H) (n : Nat) : am_P (am_skip h n) = am_P h := rfl
theorem am_N_skip (h : Am_H) (n : Nat) : am_N (am_skip h n) = n := rfl
/-- what a run knows of its place: the base, the classes' numbers, their slots, the arrays' classes, the texts' addresses -/
abbrev Am_G : Type := Nat × (Nat → ClassId) × (Nat → Nat → Nat) × (Nat → ClassId) × (Nat → Nat)
def am_c (G : Am_G) (v : Value) : Value := match v with
  | .ref o => .ref (G.1 + o)
  | .float i => .ref (G.2.2.2.2 i.toNat)
  | v => v
theorem am_c_int (G : Am_G) (x : Int32) : am_c G (.int x) = .int x := rfl
theorem am_c_long (G : Am_G) (x : Int64) : am_c G (.long x) = .long x := rfl
theorem am_c_ref (G : Am_G) (x : Nat) : am_c G (.ref x) = .ref (G.1 + x) := rfl
theorem am_c_null (G : Am_G) : am_c G .null = .null := rfl
theorem am_c_cat (G : Am_G) (v : Value) : (am_c G v).category = v.category := by cases v <;> rfl
def am_int (d : String) : Bool := d == "I" || d == "Z"
def am_rf (r : Option Nat) : Value := match r with
  | none => .null
  | some a => .ref a
theorem am_rf_none : am_rf none = .null := rfl
theorem am_rf_some (a : Nat) : am_rf (some a) = .ref a := rfl
def am_fv (G : Am_G) (h : Am_H) (T : u_T) (o k : Nat) : Value := if am_int (T k).2.2.1 = true then .int (am_I h o k) else am_c G (am_rf (am_P h o k))
def am_sv (G : Am_G) (r : Option Nat) : Value := match r with
  | none => .null
  | some i => .ref (G.2.2.2.2 i)
def am_cell (G : Am_G) (h : Am_H) (H : Heap) (o : Nat) : Prop := match am_S h o with
  | (0, _) => True
  | (1, ci) => ∃ r : vw_C, vwCl[ci]? = some r ∧ t_OB (G.1 + o) (G.2.1 ci) r.2.2 (G.2.2.1 ci) H (am_fv G h r.2.1 o)
  | (2, n) => H[G.1 + o]? = some (arrV (G.2.2.2.1 2) n (fun j => .int (am_I h o j)))
  | (3, n) => H[G.1 + o]? = some (arrV (G.2.2.2.1 3) n (fun j => .int (am_I h o j))) ∧ ∀ j, narrow .byte (.int (am_I h o j)) = .int (am_I h o j)
  | (4, n) => H[G.1 + o]? = some (arrV (G.2.2.2.1 4) n (fun j => .long (am_L h o j)))
  | (5, n) => H[G.1 + o]? = some (arrV (G.2.2.2.1 5) n (fun j => am_sv G (am_P h o j)))
  | _ => False
def am_W (G : Am_G) (h : Am_H) (H : Heap) : Prop := H.size = G.1 + am_N h ∧ ∀ o, am_cell G h H o
def am_A (G : Am_G) : Nat → Prop := fun q => G.1 ≤ q
/-- the cells hold another heap's picture where the heap is the same and so is what the picture says of it -/
theorem am_cell_kept {G : Am_G} {h h1 : Am_H} {H H1 : Heap} {o : Nat} (hc : am_cell G h H o) (hS : am_S h1 o = am_S h o) (hI : ∀ j, am_I h1 o j = am_I h o j) (hL : ∀ j, am_L h1 o j = am_L h o j) (hP : ∀ j, am_P h1 o j = am_P h o j) (hq : H1[G.1 + o]? = H[G.1 + o]?) : am_cell G h1 H1 o := by
  have fI : am_I h1 o = am_I h o := funext hI
  have fL : am_L h1 o = am_L h o := funext hL
  have fP : am_P h1 o = am_P h o := funext hP
  have fv : ∀ T, am_fv G h1 T o = am_fv G h T o := fun T => funext fun k => by simp only [am_fv, fI, fP]
  unfold am_cell at hc ⊢
  rw [hS]
  split <;> rename_i heq <;> simp only [heq] at hc ⊢
  · obtain ⟨r, h1, h2⟩ := hc
    exact ⟨r, h1, by rw [fv]; exact h2.kept hq⟩
  · rw [hq, fI]; exact hc
  · rw [hq, fI]; exact hc
  · rw [hq, fL]; exact hc
  · rw [hq, fP]; exact hc
theorem am_cell_lt {G : Am_G} {h : Am_H} {H : Heap} {o : Nat} (hc : am_cell G h H o) (h0 : (am_S h o).1 ≠ 0) : G.1 + o < H.size := by
  have key : ∀ {c : Cell}, H[G.1 + o]? = some c → G.1 + o < H.size := fun e => (Array.getElem?_eq_some_iff.mp e).1
  unfold am_cell at hc
  split at hc <;> rename_i heq
  · exact absurd (by rw [heq]) h0
  · obtain ⟨r, -, cell, h2, -⟩ := hc; exact key h2
  · exact key hc
  · exact key hc.1
  · exact key hc
  · exact key hc
  · exact hc.elim
