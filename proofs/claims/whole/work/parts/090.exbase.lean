-- THE WORLD OF THE EXECUTOR: b 0 the object, b 1 its Program[], b 2 its Run[], then six runs of six cells
abbrev XS : Type := (Nat → PR) × (Nat → RS) × Int64 × Int32 × Int32 × Int32
def eP (E : XS) : Nat → PR := E.1
def eU (E : XS) : Nat → RS := E.2.1
def eC (E : XS) : Int64 := E.2.2.1
def eR (E : XS) : Int32 := E.2.2.2.1
def eT (E : XS) : Int32 := E.2.2.2.2.1
def eB (E : XS) : Int32 := E.2.2.2.2.2
def adr (b : Nat → Nat) (j : Nat) : Nat → Nat := fun k => b (3 + 6 * j + k)
def xF (b : Nat → Nat) (E : XS) : List Value := [.ref (b 1), .ref (b 2), .long (eC E), .int (eR E), .int (eT E), .int (eB E)]
def w3 (b : Nat → Nat) (cP cR : ClassId) (E : XS) : va_W := [(b 0, .inr (2, xF b E)), (b 1, .inl (cP, 6, .inr (.inr (.inr (.inr (fun j => some (adr b j 1))))))), (b 2, .inl (cR, 6, .inr (.inr (.inr (.inr (fun j => some (adr b j 0)))))))]
def wAll (b : Nat → Nat) (cI : ClassId) (E : XS) : Nat → va_W
  | 0 => []
  | n + 1 => wAll b cI E n ++ wR (adr b n) cI (eP E n) (eU E n)
def wX (b : Nat → Nat) (cI cP cR : ClassId) (E : XS) : va_W := w3 b cP cR E ++ wAll b cI E 6
theorem vP_mem {D : va_G} {cl : List vw_C} {ws : va_W} {H : Heap} : va_P D cl ws H ↔ ∀ q ∈ ws, va_at D cl q H := by
  constructor
  · intro h q hq
    obtain ⟨i, hi⟩ := List.getElem?_of_mem hq
    exact h i q hi
  · intro h k q hk
    exact h q (List.mem_of_getElem? hk)
theorem wAll_mem {b : Nat → Nat} {cI : ClassId} {E : XS} {n : Nat} {q : Nat × va_E} : q ∈ wAll b cI E n ↔ ∃ j, j < n ∧ q ∈ wR (adr b j) cI (eP E j) (eU E j) := by
  induction n with
  | zero => exact ⟨fun h => absurd h List.not_mem_nil, fun ⟨j, hj, _⟩ => absurd hj (Nat.not_lt_zero j)⟩
  | succ n ih =>
    show q ∈ wAll b cI E n ++ wR (adr b n) cI (eP E n) (eU E n) ↔ _
    rw [List.mem_append, ih]
    constructor
    · rintro (⟨j, hj, h⟩ | h)
      · exact ⟨j, by omega, h⟩
      · exact ⟨n, by omega, h⟩
    · rintro ⟨j, hj, h⟩
      rcases (show j < n ∨ j = n by omega) with h2 | rfl
      · exact Or.inl ⟨j, h2, h⟩
      · exact Or.inr h
theorem wX_P {D : va_G} {b : Nat → Nat} {cI cP cR : ClassId} {E : XS} {H : Heap} : va_P D vwCl (wX b cI cP cR E) H ↔ va_P D vwCl (w3 b cP cR E) H ∧ ∀ j, j < 6 → va_P D vwCl (wR (adr b j) cI (eP E j) (eU E j)) H := by
  constructor
  · intro h
    rw [vP_mem] at h
    exact ⟨vP_mem.mpr (fun q hq => h q (List.mem_append_left _ hq)), fun j hj => vP_mem.mpr (fun q hq => h q (List.mem_append_right _ (wAll_mem.mpr ⟨j, hj, hq⟩)))⟩
  · rintro ⟨h1, h2⟩
    rw [vP_mem]
    intro q hq
    rcases List.mem_append.mp hq with h | h
    · exact vP_mem.mp h1 q h
    · obtain ⟨j, hj, h⟩ := wAll_mem.mp h
      exact vP_mem.mp (h2 j hj) q h
def dX (b : Nat → Nat) : Prop := ∀ i j, i < 39 → j < 39 → b i = b j → i = j
def aX (b : Nat → Nat) : Nat → Prop := fun q => ∃ i, i < 39 ∧ q = b i
theorem dX_R {b : Nat → Nat} (h : dX b) {j : Nat} (hj : j < 6) : dR (adr b j) := by
  intro i k hi hk e
  have := h (3 + 6 * j + i) (3 + 6 * j + k) (by omega) (by omega) e
  omega
theorem aX_R {b : Nat → Nat} {j : Nat} (hj : j < 6) : ∀ q, aR (adr b j) q → aX b q := by
  rintro q ⟨i, hi, rfl⟩
  exact ⟨3 + 6 * j + i, by omega, rfl⟩
/-- a call on run p gave back its six cells: the rest is as it was -/
theorem wX_back {D : va_G} {b : Nat → Nat} {cI cP cR : ClassId} {E E2 : XS} {H H1 : Heap} {p : Nat} (hd : dX b) (hp : p < 6) (hP : va_P D vwCl (wX b cI cP cR E) H) (hk : ∀ q : Nat, q < H.size → ¬ aR (adr b p) q → H1[q]? = H[q]?) (h1 : va_P D vwCl (wR (adr b p) cI (eP E2 p) (eU E2 p)) H1) (h3 : xF b E2 = xF b E) (ho : ∀ j, j < 6 → j ≠ p → eP E2 j = eP E j ∧ eU E2 j = eU E j) : va_P D vwCl (wX b cI cP cR E2) H1 := by
  obtain ⟨g1, g2⟩ := wX_P.mp hP
  refine wX_P.mpr ⟨?_, fun j hj => ?_⟩
  · have e : w3 b cP cR E2 = w3 b cP cR E := by unfold w3; rw [h3]
    rw [e]
    refine va_P.kept g1 (fun k q hq => hk q.1 (g1 k q hq).lt ?_)
    rintro ⟨i, hi, e⟩
    match k, hq with
    | 0, hq => cases hq; have := hd 0 (3 + 6 * p + i) (by omega) (by omega) e; omega
    | 1, hq => cases hq; have := hd 1 (3 + 6 * p + i) (by omega) (by omega) e; omega
    | 2, hq => cases hq; have := hd 2 (3 + 6 * p + i) (by omega) (by omega) e; omega
    | k + 3, hq => exact absurd hq (by simp [w3])
  · by_cases hjp : j = p
    · subst hjp
      exact h1
    · obtain ⟨o1, o2⟩ := ho j hj hjp
      rw [o1, o2]
      refine va_P.kept (g2 j hj) (fun k q hq => hk q.1 (g2 j hj k q hq).lt ?_)
      rintro ⟨i, hi, e⟩
      obtain ⟨i2, hi2, e2⟩ := (dD (dX_R hd hj) cI (eP E j) (eU E j)).2 k q hq
      have := hd (3 + 6 * j + i2) (3 + 6 * p + i) (by omega) (by omega) (e2.symm.trans e)
      omega
