/-! ===== the heap as maps: ints, references, doubles by field and address; arrays of ints, doubles, references by address and place; lengths; tags (0: not ours) ===== -/
abbrev hp : Type := (Nat → Nat → Int32) × (Nat → Nat → Option Nat) × (Nat → Nat → UInt64) × (Nat → Nat → Int32) × (Nat → Nat → UInt64) × (Nat → Nat → Option Nat) × (Nat → Nat) × (Nat → Nat)
def hp_I (h : hp) : Nat → Nat → Int32 := h.1
def hp_R (h : hp) : Nat → Nat → Option Nat := h.2.1
def hp_D (h : hp) : Nat → Nat → UInt64 := h.2.2.1
def ar_I (h : hp) : Nat → Nat → Int32 := h.2.2.2.1
def ar_D (h : hp) : Nat → Nat → UInt64 := h.2.2.2.2.1
def ar_R (h : hp) : Nat → Nat → Option Nat := h.2.2.2.2.2.1
def hp_n (h : hp) : Nat → Nat := h.2.2.2.2.2.2.1
def hp_t (h : hp) : Nat → Nat := h.2.2.2.2.2.2.2
def up_2 {α : Type} (f : Nat → Nat → α) (a b : Nat) (v : α) : Nat → Nat → α := fun x y => if x = a ∧ y = b then v else f x y
def up_r {α : Type} (f : Nat → Nat → α) (a : Nat) (g : Nat → α) : Nat → Nat → α := fun x => if x = a then g else f x
def up_c {α : Type} (f : Nat → Nat → α) (b : Nat) (v : α) : Nat → Nat → α := fun x y => if y = b then v else f x y
def st_I (h : hp) (f a : Nat) (v : Int32) : hp := (up_2 (hp_I h) f a v, h.2)
def st_R (h : hp) (f a : Nat) (v : Option Nat) : hp := (h.1, up_2 (hp_R h) f a v, h.2.2)
def st_D (h : hp) (f a : Nat) (v : UInt64) : hp := (h.1, h.2.1, up_2 (hp_D h) f a v, h.2.2.2)
def sa_I (h : hp) (a i : Nat) (v : Int32) : hp := (h.1, h.2.1, h.2.2.1, up_2 (ar_I h) a i v, h.2.2.2.2)
def sa_D (h : hp) (a i : Nat) (v : UInt64) : hp := (h.1, h.2.1, h.2.2.1, h.2.2.2.1, up_2 (ar_D h) a i v, h.2.2.2.2.2)
def sa_R (h : hp) (a i : Nat) (v : Option Nat) : hp := (h.1, h.2.1, h.2.2.1, h.2.2.2.1, h.2.2.2.2.1, up_2 (ar_R h) a i v, h.2.2.2.2.2.2)
/-- a new cell at q: tag t, n places, all of it default -/
def mk_o (h : hp) (q t n : Nat) : hp := (up_c (hp_I h) q 0, up_c (hp_R h) q none, up_c (hp_D h) q 0, up_r (ar_I h) q (fun _ => 0), up_r (ar_D h) q (fun _ => 0), up_r (ar_R h) q (fun _ => none), va_up (hp_n h) q n, va_up (hp_t h) q t)
/-- the fields of an object by their kinds (0 int, 1 reference, else double), numbered from f on -/
def fv_l (h : hp) (a : Nat) : List Nat → Nat → List Value
  | [], _ => []
  | 0 :: ts, f => .int (hp_I h f a) :: fv_l h a ts (f + 1)
  | 1 :: ts, f => va_rf (hp_R h f a) :: fv_l h a ts (f + 1)
  | (_ + 2) :: ts, f => .double (hp_D h f a) :: fv_l h a ts (f + 1)
/-- the kinds of the fields of class i of vwCl -/
def fk_l (i : Nat) : List Nat := match vwCl[i]? with
  | none => []
  | some q => (List.range q.2.2).map (fun k => if (q.2.1 k).2.2.1 = "I" then 0 else if (q.2.1 k).2.2.1 = "D" then 2 else 1)
/-- globals: the classes' numbers and slots, the array classes by tag, the first address that is ours, the heap at the start -/
abbrev gl : Type := va_G × (Nat → ClassId) × Nat × Heap
/-- tags: 1 .. 8 the classes; 11 int[], 12 boolean[], 13 double[], from 14 on arrays of references -/
def pi_c (G : gl) (h : hp) (t a : Nat) : va_E :=
  if t < 11 then .inr (t - 1, fv_l h a (fk_l (t - 1)) (40 * (t - 1)))
  else if t < 13 then .inl (G.2.1 t, hp_n h a, .inl (ar_I h a))
  else if t = 13 then .inl (G.2.1 t, hp_n h a, .inr (.inr (.inr (.inl (ar_D h a)))))
  else .inl (G.2.1 t, hp_n h a, .inr (.inr (.inr (.inr (ar_R h a)))))
def ty_l (G : gl) : List (ClassId × FieldType) := [(G.2.1 11, .int), (G.2.1 12, .boolean), (G.2.1 13, .double), (G.2.1 14, .object "CordBay$Unit"), (G.2.1 15, .object "CordBay$Table"), (G.2.1 16, .object "CordBay$Row"), (G.2.1 17, .object "CordBay$State"), (G.2.1 18, .array .int)]
def kn_ok (G : gl) (s : State) : Prop := va_K G.1 vwCl (ty_l G) s
/-- the machine's heap H is as h says -/
def hp_ok (G : gl) (h : hp) (H : Heap) : Prop := G.2.2.1 ≤ H.size ∧ (∀ q : Nat, q < G.2.2.1 → H[q]? = G.2.2.2[q]?) ∧ ∀ a, hp_t h a ≠ 0 → G.2.2.1 ≤ a ∧ va_at G.1 vwCl (a, pi_c G h (hp_t h a) a) H
def lo_ok (G : gl) (locs : List Loc) : Prop := ∀ q ∈ locs, G.2.2.1 ≤ q.base
/-- what a walk of one method stands on -/
def cx_ok (G : gl) (own : String) (cc : ByteArray) (nL : Nat) (p : Program) (s : State) (m : MethodId) (args : Array Value) (c : Code) : Prop :=
  p.tables.exec = Jvm.exec ∧ c.code = cc ∧ c.maxLocals = nL ∧ s.vm.findClass own = some m.cls ∧ (∀ w ∈ lw_tbl, w.before args s = true) ∧ kn_ok G s
theorem fv_len (h : hp) (a : Nat) : ∀ (ts : List Nat) (f : Nat), (fv_l h a ts f).length = ts.length
  | [], _ => rfl
  | 0 :: ts, f => congrArg (· + 1) (fv_len h a ts (f + 1))
  | 1 :: ts, f => congrArg (· + 1) (fv_len h a ts (f + 1))
  | (_ + 2) :: ts, f => congrArg (· + 1) (fv_len h a ts (f + 1))
/-- fields of an object that agree -/
theorem fv_congr {h h' : hp} {a : Nat} (e1 : ∀ f, hp_I h' f a = hp_I h f a) (e2 : ∀ f, hp_R h' f a = hp_R h f a) (e3 : ∀ f, hp_D h' f a = hp_D h f a) : ∀ (ts : List Nat) (f : Nat), fv_l h' a ts f = fv_l h a ts f
  | [], _ => rfl
  | 0 :: ts, f => by simp only [fv_l]; rw [e1, fv_congr e1 e2 e3 ts (f + 1)]
  | 1 :: ts, f => by simp only [fv_l]; rw [e2, fv_congr e1 e2 e3 ts (f + 1)]
  | (_ + 2) :: ts, f => by simp only [fv_l]; rw [e3, fv_congr e1 e2 e3 ts (f + 1)]
theorem up_2_ne {α : Type} {f : Nat → Nat → α} {a b x y : Nat} {v : α} (h : ¬ (x = a ∧ y = b)) : up_2 f a b v x y = f x y := if_neg h
theorem up_2_eq {α : Type} {f : Nat → Nat → α} {a b : Nat} {v : α} : up_2 f a b v a b = v := if_pos ⟨rfl, rfl⟩
/-- an int field set: place k of the list -/
theorem fv_setI {h : hp} {a g : Nat} {v : Int32} : ∀ (ts : List Nat) (f k : Nat), g = f + k → ts[k]? = some 0 → fv_l (st_I h g a v) a ts f = (fv_l h a ts f).set k (.int v)
  | [], _, k, _, hk => by simp at hk
  | t :: ts, f, 0, hg, hk => by
    have ht : t = 0 := by simpa using hk
    subst ht
    have hg' : g = f := hg
    subst hg'
    simp only [fv_l, List.set_cons_zero]
    refine congr (congrArg List.cons ?_) (fv_less ts (g + 1) (by omega))
    exact congrArg Value.int up_2_eq
  | t :: ts, f, k + 1, hg, hk => by
    have hk' : ts[k]? = some 0 := by simpa using hk
    have ih := fv_setI (h := h) (a := a) (v := v) ts (f + 1) k (by omega) hk'
    have hne : ¬ (f = g ∧ a = a) := by omega
    match t with
    | 0 => simp only [fv_l, List.set_cons_succ]; rw [ih]; exact congrArg (fun z => Value.int z :: _) (up_2_ne hne)
    | 1 => simp only [fv_l, List.set_cons_succ]; rw [ih]; rfl
    | (_ + 2) => simp only [fv_l, List.set_cons_succ]; rw [ih]; rfl
where fv_less {h : hp} {a g : Nat} {v : Int32} : ∀ (ts : List Nat) (f : Nat), g < f → fv_l (st_I h g a v) a ts f = fv_l h a ts f
  | [], _, _ => rfl
  | 0 :: ts, f, hg => by simp only [fv_l]; rw [fv_less ts (f + 1) (by omega)]; exact congrArg (fun z => Value.int z :: _) (up_2_ne (by omega))
  | 1 :: ts, f, hg => by simp only [fv_l]; rw [fv_less ts (f + 1) (by omega)]; rfl
  | (_ + 2) :: ts, f, hg => by simp only [fv_l]; rw [fv_less ts (f + 1) (by omega)]; rfl
theorem fv_setR {h : hp} {a g : Nat} {v : Option Nat} : ∀ (ts : List Nat) (f k : Nat), g = f + k → ts[k]? = some 1 → fv_l (st_R h g a v) a ts f = (fv_l h a ts f).set k (va_rf v)
  | [], _, k, _, hk => by simp at hk
  | t :: ts, f, 0, hg, hk => by
    have ht : t = 1 := by simpa using hk
    subst ht
    have hg' : g = f := hg
    subst hg'
    simp only [fv_l, List.set_cons_zero]
    refine congr (congrArg List.cons ?_) (fv_lessR ts (g + 1) (by omega))
    exact congrArg va_rf up_2_eq
  | t :: ts, f, k + 1, hg, hk => by
    have hk' : ts[k]? = some 1 := by simpa using hk
    have ih := fv_setR (h := h) (a := a) (v := v) ts (f + 1) k (by omega) hk'
    have hne : ¬ (f = g ∧ a = a) := by omega
    match t with
    | 0 => simp only [fv_l, List.set_cons_succ]; rw [ih]; rfl
    | 1 => simp only [fv_l, List.set_cons_succ]; rw [ih]; exact congrArg (fun z => va_rf z :: _) (up_2_ne hne)
    | (_ + 2) => simp only [fv_l, List.set_cons_succ]; rw [ih]; rfl
where fv_lessR {h : hp} {a g : Nat} {v : Option Nat} : ∀ (ts : List Nat) (f : Nat), g < f → fv_l (st_R h g a v) a ts f = fv_l h a ts f
  | [], _, _ => rfl
  | 0 :: ts, f, hg => by simp only [fv_l]; rw [fv_lessR ts (f + 1) (by omega)]; rfl
  | 1 :: ts, f, hg => by simp only [fv_l]; rw [fv_lessR ts (f + 1) (by omega)]; exact congrArg (fun z => va_rf z :: _) (up_2_ne (by omega))
  | (_ + 2) :: ts, f, hg => by simp only [fv_l]; rw [fv_lessR ts (f + 1) (by omega)]; rfl
theorem fv_setD {h : hp} {a g : Nat} {v : UInt64} : ∀ (ts : List Nat) (f k : Nat), g = f + k → ts[k]? = some 2 → fv_l (st_D h g a v) a ts f = (fv_l h a ts f).set k (.double v)
  | [], _, k, _, hk => by simp at hk
  | t :: ts, f, 0, hg, hk => by
    have ht : t = 2 := by simpa using hk
    subst ht
    have hg' : g = f := hg
    subst hg'
    simp only [fv_l, List.set_cons_zero]
    refine congr (congrArg List.cons ?_) (fv_lessD ts (g + 1) (by omega))
    exact congrArg Value.double up_2_eq
  | t :: ts, f, k + 1, hg, hk => by
    have hk' : ts[k]? = some 2 := by simpa using hk
    have ih := fv_setD (h := h) (a := a) (v := v) ts (f + 1) k (by omega) hk'
    have hne : ¬ (f = g ∧ a = a) := by omega
    match t with
    | 0 => simp only [fv_l, List.set_cons_succ]; rw [ih]; rfl
    | 1 => simp only [fv_l, List.set_cons_succ]; rw [ih]; rfl
    | (_ + 2) => simp only [fv_l, List.set_cons_succ]; rw [ih]; exact congrArg (fun z => Value.double z :: _) (up_2_ne hne)
where fv_lessD {h : hp} {a g : Nat} {v : UInt64} : ∀ (ts : List Nat) (f : Nat), g < f → fv_l (st_D h g a v) a ts f = fv_l h a ts f
  | [], _, _ => rfl
  | 0 :: ts, f, hg => by simp only [fv_l]; rw [fv_lessD ts (f + 1) (by omega)]; rfl
  | 1 :: ts, f, hg => by simp only [fv_l]; rw [fv_lessD ts (f + 1) (by omega)]; rfl
  | (_ + 2) :: ts, f, hg => by simp only [fv_l]; rw [fv_lessD ts (f + 1) (by omega)]; exact congrArg (fun z => Value.double z :: _) (up_2_ne (by omega))
/-- pictures that agree at one address -/
theorem pi_congr {G : gl} {h h' : hp} {t a : Nat} (e1 : ∀ f, hp_I h' f a = hp_I h f a) (e2 : ∀ f, hp_R h' f a = hp_R h f a) (e3 : ∀ f, hp_D h' f a = hp_D h f a) (e4 : ar_I h' a = ar_I h a) (e5 : ar_D h' a = ar_D h a) (e6 : ar_R h' a = ar_R h a) (e7 : hp_n h' a = hp_n h a) : pi_c G h' t a = pi_c G h t a := by
  unfold pi_c
  rw [fv_congr e1 e2 e3, e4, e5, e6, e7]
/-- one cell of ours rewritten -/
theorem hp_ok.set {G : gl} {h h' : hp} {H H1 : Heap} {a : Nat} (ok : hp_ok G h H) (ha : hp_t h a ≠ 0) (ht : hp_t h' = hp_t h) (hz : H.size ≤ H1.size) (ho : ∀ q : Nat, q < H.size → q ≠ a → H1[q]? = H[q]?) (hp : ∀ b, b ≠ a → pi_c G h' (hp_t h b) b = pi_c G h (hp_t h b) b) (hn : va_at G.1 vwCl (a, pi_c G h' (hp_t h a) a) H1) : hp_ok G h' H1 := by
  obtain ⟨o1, o2, o3⟩ := ok
  have hba := (o3 a ha).1
  refine ⟨Nat.le_trans o1 hz, fun q hq => ?_, fun b hb => ?_⟩
  · rw [ho q (Nat.lt_of_lt_of_le hq o1) (by omega)]; exact o2 q hq
  · rw [ht] at hb ⊢
    by_cases e : b = a
    · subst e; exact ⟨hba, hn⟩
    · have hb' := o3 b hb
      rw [hp b e]
      exact ⟨hb'.1, hb'.2.kept (ho b hb'.2.lt e)⟩
/-- a new cell of ours -/
theorem hp_ok.new {G : gl} {h : hp} {H H1 : Heap} {q t n : Nat} (ok : hp_ok G h H) (hq : H.size ≤ q) (hz : H.size ≤ H1.size) (ho : ∀ x : Nat, x < H.size → H1[x]? = H[x]?) (hn : va_at G.1 vwCl (q, pi_c G (mk_o h q t n) t q) H1) : hp_ok G (mk_o h q t n) H1 := by
  obtain ⟨o1, o2, o3⟩ := ok
  refine ⟨Nat.le_trans o1 hz, fun x hx => ?_, fun b hb => ?_⟩
  · rw [ho x (Nat.lt_of_lt_of_le hx o1)]; exact o2 x hx
  · by_cases e : b = q
    · subst e
      have : hp_t (mk_o h b t n) b = t := by simp [mk_o, hp_t, va_up]
      rw [this]
      exact ⟨Nat.le_trans o1 hq, hn⟩
    · have e2 : hp_t (mk_o h q t n) b = hp_t h b := by simp [mk_o, hp_t, va_up, e]
      rw [e2] at hb ⊢
      have hb' := o3 b hb
      rw [pi_congr (h := h) (h' := mk_o h q t n) (fun f => by simp [mk_o, hp_I, up_c, e]) (fun f => by simp [mk_o, hp_R, up_c, e]) (fun f => by simp [mk_o, hp_D, up_c, e]) (by simp [mk_o, ar_I, up_r, e]) (by simp [mk_o, ar_D, up_r, e]) (by simp [mk_o, ar_R, up_r, e]) (by simp [mk_o, hp_n, va_up, e])]
      exact ⟨hb'.1, hb'.2.kept (ho b hb'.2.lt)⟩
theorem hp_ok.fresh {G : gl} {h : hp} {H : Heap} {q : Nat} (ok : hp_ok G h H) (hq : H.size ≤ q) : hp_t h q = 0 := by
  rcases Nat.eq_zero_or_pos (hp_t h q) with e | e
  · exact e
  · have := (ok.2.2 q (by omega)).2.lt
    exact absurd this (by show ¬ q < H.size; omega)
theorem hp_ok.at {G : gl} {h : hp} {H : Heap} {a t : Nat} (ok : hp_ok G h H) (ht : hp_t h a = t) (h0 : t ≠ 0) : va_at G.1 vwCl (a, pi_c G h t a) H := by
  have := (ok.2.2 a (by rw [ht]; exact h0)).2
  rw [ht] at this
  exact this
theorem va_P1 {D : va_G} {cl : List vw_C} {q : Nat × va_E} {H : Heap} (h : va_at D cl q H) : va_P D cl [q] H := by
  intro k x hx
  match k, hx with
  | 0, hx => cases hx; exact h
theorem va_D1 {A : Nat → Prop} {q : Nat × va_E} (h : A q.1) : va_D A [q] := by
  refine ⟨fun i j x y hx hy _ => ?_, fun k x hx => ?_⟩
  · match i, j, hx, hy with
    | 0, 0, _, _ => rfl
  · match k, hx with
    | 0, hx => cases hx; exact h
