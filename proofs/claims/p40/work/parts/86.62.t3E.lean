/-! places, and twos of them -/
abbrev PL := Nat × Nat
abbrev I4 := Int32 × Int32 × Int32 × Int32
def i4 (a b : PL) : I4 := (Int32.ofNat a.1, Int32.ofNat b.1, Int32.ofNat a.2, Int32.ofNat b.2)
/-- m places of VERSE v, from p on -/
def prow (v : Nat) : Nat → Nat → List PL
  | 0, _ => []
  | m + 1, p => (v, p) :: prow v m (p + 1)
/-- the places of m VERSES, from v on: np says how many a VERSE has -/
def plc (np : Nat → Nat) : Nat → Nat → List PL
  | 0, _ => []
  | m + 1, v => prow v (np v) 0 ++ plc np m (v + 1)
def secP (U : PL → PL → Bool) (a : PL) : List PL → List I4
  | [] => []
  | b :: R => if U a b = true then i4 a b :: secP U a R else secP U a R
def prs (U : PL → PL → Bool) : List PL → List I4
  | [] => []
  | a :: R => secP U a R ++ prs U R
section PLS
variable {U : PL → PL → Bool} {a b : PL} {R : List PL}
theorem secP_y (h : U a b = true) : secP U a (b :: R) = i4 a b :: secP U a R := by show (if _ then _ else _) = _; rw [if_pos h]
theorem secP_n (h : ¬ U a b = true) : secP U a (b :: R) = secP U a R := by show (if _ then _ else _) = _; rw [if_neg h]
theorem secP_app : ∀ (A B : List PL), secP U a (A ++ B) = secP U a A ++ secP U a B := by
  intro A
  induction A with
  | nil => intro B; rfl
  | cons x A ih =>
    intro B
    show secP U a (x :: (A ++ B)) = _
    by_cases w : U a x = true
    · rw [secP_y w, secP_y w, ih]; rfl
    · rw [secP_n w, secP_n w, ih]
theorem secP_len : ∀ (A : List PL), (secP U a A).length ≤ A.length := by
  intro A
  induction A with
  | nil => exact Nat.le_refl _
  | cons x A ih =>
    by_cases w : U a x = true
    · rw [secP_y w]; show (secP U a A).length + 1 ≤ A.length + 1; omega
    · rw [secP_n w]; show _ ≤ A.length + 1; omega
theorem secP_f {sp : PL → Bool} (h : ∀ b, U a b = true → sp b = true) : ∀ (A : List PL), secP U a (A.filter sp) = secP U a A := by
  intro A
  induction A with
  | nil => rfl
  | cons x A ih =>
    by_cases w : sp x = true
    · rw [List.filter_cons_of_pos w]
      by_cases w2 : U a x = true
      · rw [secP_y w2, secP_y w2, ih]
      · rw [secP_n w2, secP_n w2, ih]
    · rw [List.filter_cons_of_neg w, secP_n (fun z => w (h x z)), ih]
theorem secP_none : ∀ (A : List PL), (∀ b, b ∈ A → ¬ U a b = true) → secP U a A = [] := by
  intro A
  induction A with
  | nil => intro _; rfl
  | cons x A ih =>
    intro h
    rw [secP_n (h x (List.mem_cons.mpr (Or.inl rfl))), ih (fun b hb => h b (List.mem_cons.mpr (Or.inr hb)))]
theorem prs_f {sp : PL → Bool} (h : ∀ a b, U a b = true → sp a = true ∧ sp b = true) : ∀ (A : List PL), prs U (A.filter sp) = prs U A := by
  intro A
  induction A with
  | nil => rfl
  | cons x A ih =>
    by_cases w : sp x = true
    · rw [List.filter_cons_of_pos w]
      show secP U x (A.filter sp) ++ prs U (A.filter sp) = secP U x A ++ prs U A
      rw [secP_f (fun b hb => (h x b hb).2), ih]
    · rw [List.filter_cons_of_neg w, ih]
      show _ = secP U x A ++ prs U A
      rw [secP_none A (fun b _ z => w (h x b z).1)]; rfl
theorem prow_len : ∀ (m v p : Nat), (prow v m p).length = m := by
  intro m
  induction m with
  | zero => intro v p; rfl
  | succ m ih => intro v p; show (prow v m (p + 1)).length + 1 = m + 1; rw [ih]
theorem plc_len {np : Nat → Nat} {B : Nat} : ∀ (m v : Nat), (∀ k, v ≤ k → k < v + m → np k ≤ B) → (plc np m v).length ≤ B * m := by
  intro m
  induction m with
  | zero => intro v _; exact Nat.zero_le _
  | succ m ih =>
    intro v h
    have h1 := ih (v + 1) (fun k k1 k2 => h k (by omega) (by omega))
    have h2 := h v (Nat.le_refl _) (by omega)
    have e : B * (m + 1) = B * m + B := Nat.mul_succ B m
    show (prow v (np v) 0 ++ plc np m (v + 1)).length ≤ _
    rw [List.length_append, prow_len, e]; omega
theorem prow_f {sp : PL → Bool} {v : Nat} {h : Bool} (hs : ∀ p, sp (v, p) = h) : ∀ (m p : Nat), (prow v m p).filter sp = if h = true then prow v m p else [] := by
  intro m
  induction m with
  | zero => intro p; show [] = _; split <;> rfl
  | succ m ih =>
    intro p
    show ((v, p) :: prow v m (p + 1)).filter sp = _
    cases h with
    | true =>
      rw [List.filter_cons_of_pos (hs p), ih (p + 1), if_pos rfl, if_pos rfl]; rfl
    | false =>
      rw [List.filter_cons_of_neg (by rw [hs p]; exact Bool.false_ne_true), ih (p + 1), if_neg Bool.false_ne_true, if_neg Bool.false_ne_true]
/-- places of the VERSES alone that are so -/
theorem plc_f {np : Nat → Nat} {ok : Nat → Bool} : ∀ (m v : Nat), plc (fun k => if ok k = true then np k else 0) m v = (plc np m v).filter (fun a => ok a.1) := by
  intro m
  induction m with
  | zero => intro v; rfl
  | succ m ih =>
    intro v
    show prow v (if ok v = true then np v else 0) 0 ++ plc (fun k => if ok k = true then np k else 0) m (v + 1) = (prow v (np v) 0 ++ plc np m (v + 1)).filter (fun a => ok a.1)
    rw [List.filter_append, ih (v + 1), prow_f (sp := fun a => ok a.1) (h := ok v) (fun p => rfl)]
    by_cases w : ok v = true
    · rw [if_pos w, if_pos w]
    · rw [if_neg w, if_neg w]; rfl
theorem prow_mem : ∀ (m v p : Nat) (a : PL), a ∈ prow v m p → a.1 = v ∧ p ≤ a.2 ∧ a.2 < p + m := by
  intro m
  induction m with
  | zero => intro v p a h; cases h
  | succ m ih =>
    intro v p a h
    rcases List.mem_cons.mp h with e | e
    · rw [e]; exact ⟨rfl, Nat.le_refl _, by show p < p + (m + 1); omega⟩
    · have := ih v (p + 1) a e; exact ⟨this.1, by omega, by omega⟩
theorem plc_mem {np : Nat → Nat} : ∀ (m v : Nat) (a : PL), a ∈ plc np m v → v ≤ a.1 ∧ a.1 < v + m ∧ a.2 < np a.1 := by
  intro m
  induction m with
  | zero => intro v a h; cases h
  | succ m ih =>
    intro v a h
    rcases List.mem_append.mp h with e | e
    · obtain ⟨h1, h2, h3⟩ := prow_mem (np v) v 0 a e
      refine ⟨by omega, by omega, ?_⟩
      rw [h1]; omega
    · have := ih (v + 1) a e; exact ⟨by omega, by omega, this.2.2⟩
end PLS
/-- the twos whose first place is in VERSE v, from place p on: those behind it in the same VERSE, then those of later VERSES -/
theorem prs_row {U : PL → PL → Bool} {v : Nat} {R : List PL} : ∀ (m p : Nat), prs U (prow v (m + 1) p ++ R) = (secP U (v, p) (prow v m (p + 1)) ++ secP U (v, p) R) ++ prs U (prow v m (p + 1) ++ R) := by
  intro m p
  show secP U (v, p) (prow v m (p + 1) ++ R) ++ prs U (prow v m (p + 1) ++ R) = _
  rw [secP_app]
