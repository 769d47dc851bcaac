/-! BLOCKS: a world as a list of blocks; a block is a number of cells with an address and a content each -/
abbrev bw_B : Type := Nat × (Nat → Nat × va_E)
def bw_r {α : Type} (n : Nat) (f : Nat → α) : List α := (List.range n).map f
theorem bw_r_len {α : Type} {n : Nat} {f : Nat → α} : (bw_r n f).length = n := by simp [bw_r]
theorem bw_r_get {α : Type} {n : Nat} {f : Nat → α} {i : Nat} (h : i < n) : (bw_r n f)[i]? = some (f i) := by
  simp [bw_r, h]
theorem bw_r_set {α : Type} {n : Nat} {f : Nat → α} {i : Nat} {v : α} : (bw_r n f).set i v = bw_r n (va_up f i v) := by
  apply List.ext_getElem?
  intro k
  rw [List.getElem?_set]
  by_cases hk : k < n
  · rw [bw_r_get hk, bw_r_get hk, bw_r_len]
    by_cases h : i = k
    · subst h; simp [va_up, hk]
    · have h' : ¬ k = i := fun q => h q.symm
      simp [va_up, h, h']
  · have h1 : (bw_r n f)[k]? = none := List.getElem?_eq_none (by rw [bw_r_len]; omega)
    have h2 : (bw_r n (va_up f i v))[k]? = none := List.getElem?_eq_none (by rw [bw_r_len]; omega)
    rw [h1, h2, bw_r_len]
    by_cases h : i = k
    · subst h; simp [hk]
    · simp [h]
theorem bw_r_push {α : Type} {n : Nat} {f : Nat → α} {v : α} : bw_r n f ++ [v] = bw_r (n + 1) (va_up f n v) := by
  apply List.ext_getElem?
  intro k
  by_cases hk : k < n
  · rw [List.getElem?_append_left (by rw [bw_r_len]; exact hk), bw_r_get hk, bw_r_get (by omega)]
    have : ¬ k = n := by omega
    simp [va_up, this]
  · rw [List.getElem?_append_right (by rw [bw_r_len]; omega), bw_r_len]
    by_cases h : k = n
    · subst h; rw [bw_r_get (by omega)]; simp [va_up]
    · rw [List.getElem?_eq_none (l := bw_r (n + 1) (va_up f n v)) (by rw [bw_r_len]; omega), List.getElem?_eq_none (by simp; omega)]
def bw_l (bs : List bw_B) : va_W := bs.flatMap fun b => bw_r b.1 b.2
def bw_o : List bw_B → Nat → Nat
  | [], _ => 0
  | _ :: _, 0 => 0
  | b :: bs, j + 1 => b.1 + bw_o bs j
theorem bw_get {bs : List bw_B} {j n i : Nat} {f : Nat → Nat × va_E} (hj : bs[j]? = some (n, f)) (hi : i < n) (Y : va_W) : (bw_l bs ++ Y)[bw_o bs j + i]? = some (f i) := by
  induction bs generalizing j with
  | nil => simp at hj
  | cons b bs ih =>
    cases j with
    | zero =>
      simp at hj
      subst hj
      show (bw_l ((n, f) :: bs) ++ Y)[0 + i]? = some (f i)
      simp only [bw_l, List.flatMap_cons, List.append_assoc, Nat.zero_add]
      rw [List.getElem?_append_left (by rw [bw_r_len]; exact hi), bw_r_get hi]
    | succ j =>
      have hj' : bs[j]? = some (n, f) := by simpa using hj
      have := ih hj'
      show (bw_l (b :: bs) ++ Y)[b.1 + bw_o bs j + i]? = some (f i)
      simp only [bw_l, List.flatMap_cons, List.append_assoc] at this ⊢
      rw [List.getElem?_append_right (by rw [bw_r_len]; omega), bw_r_len, show b.1 + bw_o bs j + i - b.1 = bw_o bs j + i by omega]
      exact this
theorem bw_set {bs : List bw_B} {j n i : Nat} {f : Nat → Nat × va_E} (hj : bs[j]? = some (n, f)) (hi : i < n) (Y : va_W) (v : Nat × va_E) : (bw_l bs ++ Y).set (bw_o bs j + i) v = bw_l (bs.set j (n, va_up f i v)) ++ Y := by
  induction bs generalizing j with
  | nil => simp at hj
  | cons b bs ih =>
    cases j with
    | zero =>
      simp at hj
      subst hj
      show (bw_l ((n, f) :: bs) ++ Y).set (0 + i) v = bw_l ((n, va_up f i v) :: bs) ++ Y
      simp only [bw_l, List.flatMap_cons, List.append_assoc, Nat.zero_add]
      rw [List.set_append_left _ _ (by rw [bw_r_len]; exact hi), bw_r_set]
    | succ j =>
      have hj' : bs[j]? = some (n, f) := by simpa using hj
      have := ih hj'
      show (bw_l (b :: bs) ++ Y).set (b.1 + bw_o bs j + i) v = bw_l (b :: bs.set j (n, va_up f i v)) ++ Y
      simp only [bw_l, List.flatMap_cons, List.append_assoc] at this ⊢
      rw [List.set_append_right _ _ (by rw [bw_r_len]; omega), bw_r_len, show b.1 + bw_o bs j + i - b.1 = bw_o bs j + i by omega, this]
theorem bw_push {bs : List bw_B} {j n : Nat} {f : Nat → Nat × va_E} (hj : bs[j]? = some (n, f)) (v : Nat × va_E) : (bw_l bs ++ [v]).Perm (bw_l (bs.set j (n + 1, va_up f n v))) := by
  induction bs generalizing j with
  | nil => simp at hj
  | cons b bs ih =>
    cases j with
    | zero =>
      simp at hj
      subst hj
      show (bw_l ((n, f) :: bs) ++ [v]).Perm (bw_l ((n + 1, va_up f n v) :: bs))
      simp only [bw_l, List.flatMap_cons, List.append_assoc]
      rw [← bw_r_push, List.append_assoc]
      exact List.Perm.append_left _ List.perm_append_comm
    | succ j =>
      have hj' : bs[j]? = some (n, f) := by simpa using hj
      have := ih hj'
      show (bw_l (b :: bs) ++ [v]).Perm (bw_l (b :: bs.set j (n + 1, va_up f n v)))
      simp only [bw_l, List.flatMap_cons, List.append_assoc] at this ⊢
      exact List.Perm.append_left _ this
theorem bw_pushY {bs : List bw_B} {j n : Nat} {f : Nat → Nat × va_E} (hj : bs[j]? = some (n, f)) (Y : va_W) (v : Nat × va_E) : (bw_l bs ++ Y ++ [v]).Perm (bw_l (bs.set j (n + 1, va_up f n v)) ++ Y) := by
  have h1 : (bw_l bs ++ Y ++ [v]).Perm (bw_l bs ++ [v] ++ Y) := by
    rw [List.append_assoc, List.append_assoc]
    exact List.Perm.append_left _ List.perm_append_comm
  exact h1.trans (List.Perm.append_right _ (bw_push hj v))
theorem bw_P {D : va_G} {cl : List vw_C} {ws ws' : va_W} {H : Heap} (hp : ws.Perm ws') (h : va_P D cl ws H) : va_P D cl ws' H := by
  intro k q hk
  obtain ⟨i, hi⟩ := List.getElem?_of_mem (hp.mem_iff.mpr (List.mem_of_getElem? hk))
  exact h i q hi
theorem bw_D_iff {A : Nat → Prop} {ws : va_W} : va_D A ws ↔ (ws.map (·.1)).Nodup ∧ ∀ q ∈ ws, A q.1 := by
  constructor
  · intro h
    refine ⟨?_, fun q hq => ?_⟩
    · rw [List.Nodup, List.pairwise_iff_getElem]
      intro i j hi hj hij he
      simp only [List.length_map] at hi hj
      simp only [List.getElem_map] at he
      have := h.1 i j ws[i] ws[j] (List.getElem?_eq_getElem hi) (List.getElem?_eq_getElem hj) he
      omega
    · obtain ⟨i, hi⟩ := List.getElem?_of_mem hq
      exact h.2 i q hi
  · intro ⟨h1, h2⟩
    refine ⟨fun i j p q hi hj he => ?_, fun k q hk => h2 q (List.mem_of_getElem? hk)⟩
    have li := (List.getElem?_eq_some_iff.mp hi)
    have lj := (List.getElem?_eq_some_iff.mp hj)
    obtain ⟨li, ei⟩ := li
    obtain ⟨lj, ej⟩ := lj
    rw [List.Nodup, List.pairwise_iff_getElem] at h1
    rcases Nat.lt_trichotomy i j with h | h | h
    · refine absurd ?_ (h1 i j (by simpa using li) (by simpa using lj) h)
      rw [List.getElem_map, List.getElem_map, ei, ej]
      exact he
    · exact h
    · refine absurd ?_ (h1 j i (by simpa using lj) (by simpa using li) h)
      rw [List.getElem_map, List.getElem_map, ei, ej]
      exact he.symm
theorem bw_D {A : Nat → Prop} {ws ws' : va_W} (hp : ws.Perm ws') (h : va_D A ws) : va_D A ws' := by
  rw [bw_D_iff] at h ⊢
  exact ⟨(hp.map _).nodup_iff.mp h.1, fun q hq => h.2 q (hp.mem_iff.mpr hq)⟩
