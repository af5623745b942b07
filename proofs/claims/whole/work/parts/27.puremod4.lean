/-! what the model's other methods keep: slots 12 to 15 -/
def kept (f : Nat → Int64) (s : Nat → Int32) (g : Nat → Int64) (t : Nat → Int32) : Prop := lim g ∧ ∀ e, e < 16 → 11 < e → num g e = num f e ∧ t e = s e
theorem kept.rf {f : Nat → Int64} {s : Nat → Int32} (h : lim f) : kept f s f s := ⟨h, fun _ _ _ => ⟨rfl, rfl⟩⟩
theorem kept.tr {f g k : Nat → Int64} {s t v : Nat → Int32} (h : kept f s g t) (h2 : kept g t k v) : kept f s k v := ⟨h2.1, fun e h3 h4 => ⟨((h2.2 e h3 h4).1).trans (h.2 e h3 h4).1, ((h2.2 e h3 h4).2).trans (h.2 e h3 h4).2⟩⟩
theorem kept.up {f g k : Nat → Int64} {s t : Nat → Int32} {d N : Nat} {v : Int32} (h : kept f s g t) (u : upn g k d N) (hd : d < 12) : kept f s k (upd t d v) := ⟨u.1, fun e h3 h4 => ⟨(u.other (by omega)).trans (h.2 e h3 h4).1, (pk_un (by omega)).trans (h.2 e h3 h4).2⟩⟩
theorem kept.upw {f g k : Nat → Int64} {s t : Nat → Int32} {d N : Nat} (h : kept f s g t) (u : upn g k d N) (hd : d < 12) : kept f s k t := ⟨u.1, fun e h3 h4 => ⟨(u.other (by omega)).trans (h.2 e h3 h4).1, (h.2 e h3 h4).2⟩⟩
theorem kept.hz {f g : Nat → Int64} {s t : Nat → Int32} {d : Nat} {z : Int} (h : kept f s g t) (u : hz f s d z) (h1 : d < 16) (h2 : 11 < d) : hz g t d z := ⟨((h.2 d h1 h2).1).trans u.1, ((h.2 d h1 h2).2).trans u.2⟩
theorem nI_inj {a b : Nat} (ha : a < 2 ^ 31) (hb : b < 2 ^ 31) (h : nI a = nI b) : a = b := by
  have h1 := (nI_leI (a := a) (b := b) ha hb).mp (by rw [h]; exact Int32.le_refl _)
  have h2 := (nI_leI (a := b) (b := a) hb ha).mp (by rw [h]; exact Int32.le_refl _)
  omega
theorem cnt_u1 {f : Nat → Int32} {k n : Nat} (h : f k = 0) (hk : k < n) : cnt (upd f k 1) n = cnt f n + 1 := by
  have lo : ∀ m, m ≤ k → cnt (upd f k 1) m = cnt f m := by
    intro m hm
    induction m with
    | zero => rfl
    | succ m ih => unfold cnt; rw [ih (by omega), pk_un (by omega)]
  induction n with
  | zero => omega
  | succ n ih =>
    by_cases q : k = n
    · subst q; rw [cnt_s1 (by rw [pk_us]; decide), cnt_s0 h, lo _ (Nat.le_refl _)]
    · unfold cnt; rw [ih (by omega), pk_un (by omega)]; omega
theorem cnt_u0 {f : Nat → Int32} {k n : Nat} (h : ¬ f k = 0) : cnt (upd f k 1) n = cnt f n := by
  induction n with
  | zero => rfl
  | succ n ih =>
    by_cases q : n = k
    · subst q; rw [cnt_s1 (by rw [pk_us]; decide), cnt_s1 h, ih]
    · unfold cnt; rw [ih, pk_un q]
theorem cnt_z {f : Nat → Int32} {n : Nat} (h : ∀ j, j < n → f j = 0) : cnt f n = 0 := by
  induction n with
  | zero => rfl
  | succ n ih => rw [cnt_s0 (h n (by omega)), ih (fun j hj => h j (by omega))]
