/-! the reference's stack -/
def SK (a : Nat → Int32) : List Int → Prop
  | [] => True
  | c :: S => (a S.length).toInt = c ∧ SK a S
theorem SK_up {a : Nat → Int32} {x : Int32} : ∀ {S : List Int} {i : Nat}, S.length ≤ i → SK a S → SK (upd a i x) S := by
  intro S
  induction S with
  | nil => intro i _ _; trivial
  | cons c S ih =>
    intro i h hs
    have hl : S.length + 1 ≤ i := h
    refine ⟨?_, ih (by omega) hs.2⟩
    show (upd a i x S.length).toInt = c
    unfold upd
    rw [if_neg (by omega)]; exact hs.1
theorem SK_push {a : Nat → Int32} {x : Int32} {c : Int} {S : List Int} (h : SK a S) (hx : x.toInt = c) : SK (upd a S.length x) (c :: S) := by
  refine ⟨?_, SK_up (Nat.le_refl _) h⟩
  show (upd a S.length x S.length).toInt = c
  unfold upd
  rw [if_pos rfl]; exact hx
def cn : List Int → Nat
  | [] => 0
  | c :: S => (if c = 40 ∨ c = 91 ∨ c = 33 then 1 else 0) + cn S
theorem cn_y {c : Int} {S : List Int} (h : c = 40 ∨ c = 91 ∨ c = 33) : cn (c :: S) = cn S + 1 := by
  show (if c = 40 ∨ c = 91 ∨ c = 33 then 1 else 0) + cn S = _
  rw [if_pos h]; omega
theorem cn_n {c : Int} {S : List Int} (h : ¬ (c = 40 ∨ c = 91 ∨ c = 33)) : cn (c :: S) = cn S := by
  show (if c = 40 ∨ c = 91 ∨ c = 33 then 1 else 0) + cn S = _
  rw [if_neg h]; omega
def AO (L : List Int) : Prop := ∀ c, c ∈ L → c = 42 ∨ c = 47 ∨ c = 37 ∨ c = 43 ∨ c = 45
def AJ (L : List Int) : Prop := ∀ c, c ∈ L → c = 38 ∨ c = 124
theorem AO_t {c : Int} {L : List Int} (h : AO (c :: L)) : AO L := fun x hx => h x (List.mem_cons_of_mem _ hx)
theorem AJ_t {c : Int} {L : List Int} (h : AJ (c :: L)) : AJ L := fun x hx => h x (List.mem_cons_of_mem _ hx)
theorem AO_c {c : Int} {L : List Int} (hc : c = 42 ∨ c = 47 ∨ c = 37 ∨ c = 43 ∨ c = 45) (h : AO L) : AO (c :: L) := by
  intro x hx
  rcases List.mem_cons.mp hx with h2 | h2
  · rw [h2]; exact hc
  · exact h x h2
theorem AJ_c {c : Int} {L : List Int} (hc : c = 38 ∨ c = 124) (h : AJ L) : AJ (c :: L) := by
  intro x hx
  rcases List.mem_cons.mp hx with h2 | h2
  · rw [h2]; exact hc
  · exact h x h2
theorem AO_n : AO [] := fun _ h => by cases h
theorem AJ_n : AJ [] := fun _ h => by cases h
theorem cn_ao {S : List Int} : ∀ {L : List Int}, AO L → cn (L ++ S) = cn S := by
  intro L
  induction L with
  | nil => intro _; rfl
  | cons c L ih =>
    intro h
    have hc := h c (List.mem_cons_self ..)
    show cn (c :: (L ++ S)) = cn S
    rw [cn_n (by omega), ih (AO_t h)]
theorem cn_aj {S : List Int} : ∀ {L : List Int}, AJ L → cn (L ++ S) = cn S := by
  intro L
  induction L with
  | nil => intro _; rfl
  | cons c L ih =>
    intro h
    have hc := h c (List.mem_cons_self ..)
    show cn (c :: (L ++ S)) = cn S
    rw [cn_n (by omega), ih (AJ_t h)]
theorem tp_c {i15 : Int32} {a : Nat → Int32} {c : Int} {S : List Int} (hd : i15.toInt = ((S.length + 1 : Nat) : Int)) (hs : SK a (c :: S)) (hl : S.length ≤ 1000) : (F_m12_top i15 a).toInt = c := by
  unfold F_m12_top
  rw [if_neg (by omega)]
  show (a (i15 - (1 : Int32)).toNatClampNeg).toInt = c
  have e := toInt_sub hd c1 (by omega) (by omega)
  rw [nc (p := S.length) (by omega)]; exact hs.1
theorem tp_0 {i15 : Int32} {a : Nat → Int32} (hd : i15.toInt = 0) : (F_m12_top i15 a).toInt = 0 := by
  unfold F_m12_top
  rw [if_pos (by omega)]; exact c0
theorem tim {v : Int32} : ((v.toInt = 42 ∨ v.toInt = 47 ∨ v.toInt = 37) ∧ F_m12_isTimes v = 1) ∨ (¬ (v.toInt = 42 ∨ v.toInt = 47 ∨ v.toInt = 37) ∧ F_m12_isTimes v = 0) := by
  have e : F_m12_isTimes v = if v.toInt = 42 then (1 : Int32) else if v.toInt = 47 then (1 : Int32) else if v.toInt ≠ 37 then (0 : Int32) else (1 : Int32) := rfl
  rw [e]
  by_cases h1 : v.toInt = 42
  · left; rw [if_pos h1]; exact ⟨Or.inl h1, rfl⟩
  · rw [if_neg h1]
    by_cases h2 : v.toInt = 47
    · left; rw [if_pos h2]; exact ⟨Or.inr (Or.inl h2), rfl⟩
    · rw [if_neg h2]
      by_cases h3 : v.toInt = 37
      · left; rw [if_neg (by omega)]; exact ⟨Or.inr (Or.inr h3), rfl⟩
      · right; rw [if_pos h3]; exact ⟨by omega, rfl⟩
theorem plu {v : Int32} : ((v.toInt = 43 ∨ v.toInt = 45) ∧ F_m12_isPlus v = 1) ∨ (¬ (v.toInt = 43 ∨ v.toInt = 45) ∧ F_m12_isPlus v = 0) := by
  have e : F_m12_isPlus v = if v.toInt = 43 then (1 : Int32) else if v.toInt ≠ 45 then (0 : Int32) else (1 : Int32) := rfl
  rw [e]
  by_cases h1 : v.toInt = 43
  · left; rw [if_pos h1]; exact ⟨Or.inl h1, rfl⟩
  · rw [if_neg h1]
    by_cases h3 : v.toInt = 45
    · left; rw [if_neg (by omega)]; exact ⟨Or.inr h3, rfl⟩
    · right; rw [if_pos h3]; exact ⟨by omega, rfl⟩
theorem sig {v : Int32} : ((v.toInt = 60 ∨ v.toInt = 62 ∨ v.toInt = 61) ∧ F_m12_isSign v = 1) ∨ (¬ (v.toInt = 60 ∨ v.toInt = 62 ∨ v.toInt = 61) ∧ F_m12_isSign v = 0) := by
  have e : F_m12_isSign v = if v.toInt = 60 then (1 : Int32) else if v.toInt = 62 then (1 : Int32) else if v.toInt ≠ 61 then (0 : Int32) else (1 : Int32) := rfl
  rw [e]
  by_cases h1 : v.toInt = 60
  · left; rw [if_pos h1]; exact ⟨Or.inl h1, rfl⟩
  · rw [if_neg h1]
    by_cases h2 : v.toInt = 62
    · left; rw [if_pos h2]; exact ⟨Or.inr (Or.inl h2), rfl⟩
    · rw [if_neg h2]
      by_cases h3 : v.toInt = 61
      · left; rw [if_neg (by omega)]; exact ⟨Or.inr (Or.inr h3), rfl⟩
      · right; rw [if_pos h3]; exact ⟨by omega, rfl⟩
theorem val {v : Int32} : ((v.toInt = 98 ∨ v.toInt = 99 ∨ v.toInt = 100 ∨ v.toInt = 109 ∨ v.toInt = 110 ∨ v.toInt = 118) ∧ F_m12_isValue v = 1) ∨ (¬ (v.toInt = 98 ∨ v.toInt = 99 ∨ v.toInt = 100 ∨ v.toInt = 109 ∨ v.toInt = 110 ∨ v.toInt = 118) ∧ F_m12_isValue v = 0) := by
  have e : F_m12_isValue v = if v.toInt = 118 then (1 : Int32) else if v.toInt = 98 then (1 : Int32) else if v.toInt = 109 then (1 : Int32) else if v.toInt = 110 then (1 : Int32) else if v.toInt = 99 then (1 : Int32) else if v.toInt ≠ 100 then (0 : Int32) else (1 : Int32) := rfl
  rw [e]
  by_cases h : v.toInt = 98 ∨ v.toInt = 99 ∨ v.toInt = 100 ∨ v.toInt = 109 ∨ v.toInt = 110 ∨ v.toInt = 118
  · left
    refine ⟨h, ?_⟩
    by_cases h1 : v.toInt = 118
    · rw [if_pos h1]
    · rw [if_neg h1]
      by_cases h2 : v.toInt = 98
      · rw [if_pos h2]
      · rw [if_neg h2]
        by_cases h3 : v.toInt = 109
        · rw [if_pos h3]
        · rw [if_neg h3]
          by_cases h4 : v.toInt = 110
          · rw [if_pos h4]
          · rw [if_neg h4]
            by_cases h5 : v.toInt = 99
            · rw [if_pos h5]
            · rw [if_neg h5, if_neg (by omega)]
  · right
    exact ⟨h, by rw [if_neg (by omega), if_neg (by omega), if_neg (by omega), if_neg (by omega), if_neg (by omega), if_pos (by omega)]⟩
def nop (h : Int) : Prop := ¬ (h = 42 ∨ h = 47 ∨ h = 37 ∨ h = 43 ∨ h = 45)
theorem len_app {L : List Int} {h : Int} {S : List Int} : (L ++ h :: S).length = L.length + S.length + 1 := by
  rw [List.length_append, List.length_cons]; omega
theorem pred_of {x : Int32} {k : Nat} (h : x.toInt = ((k + 1 : Nat) : Int)) (hk : k < 100000) : (x - 1).toInt = (k : Int) := by
  have := toInt_sub h c1 (by omega) (by omega)
  omega
/-! the code that the reference puts down: a list of (sign or 0 a number, 1 a letter, 2 not; what goes with it) -/
abbrev IN := Int × Int
abbrev C3 := Int32 × (Nat → Int32) × (Nat → Int32)
def FRM (r : Int32) (b c : Nat → Int32) (k : C3) : Prop := ∀ i, i < 160 * r.toInt.toNat → k.2.1 i = b i ∧ k.2.2 i = c i
def CD (r : Int32) (b c : Nat → Int32) (E : List IN) (k : C3) : Prop :=
  k.1.toInt = (E.length : Int) ∧ E.length ≤ 160 ∧ (0 ≤ r.toInt ∧ r.toInt ≤ 19) ∧ (∀ i x, E[i]? = some x → (k.2.1 (160 * r.toInt.toNat + i)).toInt = x.1 ∧ (k.2.2 (160 * r.toInt.toNat + i)).toInt = x.2) ∧ FRM r b c k
theorem c160 : (160 : Int32).toInt = 160 := by decide
theorem CD_idx {r i13 : Int32} {n : Nat} (hr : 0 ≤ r.toInt ∧ r.toInt ≤ 19) (h : i13.toInt = (n : Int)) (hn : n ≤ 160) : (((160 : Int32) * r) + i13).toNatClampNeg = 160 * r.toInt.toNat + n := by
  have e1 : ((160 : Int32) * r).toInt = 160 * r.toInt := toInt_mul c160 rfl rfl (by omega) (by omega)
  have e2 := toInt_add e1 h (by omega) (by omega)
  exact nc (by omega)
theorem CD_emit {r i11 p0 p1 : Int32} {b c : Nat → Int32} {E : List IN} {k : C3} {x y : Int} (h : CD r b c E k) (hl : E.length < 160) (hg : i11.toInt = 0) (hx : p0.toInt = x) (hy : p1.toInt = y) : CD r b c (E ++ [(x, y)]) (F_m12_emit p0 p1 r i11 k.1 k.2.1 k.2.2) := by
  obtain ⟨h1, h2, h3, h4, h5⟩ := h
  have e0 : F_m12_emit p0 p1 r i11 k.1 k.2.1 k.2.2 = if (F_m12_isGood i11).toInt ≠ 0 then ((k.1 + (1 : Int32)), (upd k.2.1 (((160 : Int32) * r) + k.1).toNatClampNeg p0), (upd k.2.2 (((160 : Int32) * r) + k.1).toNatClampNeg p1)) else (k.1, k.2.1, k.2.2) := rfl
  rw [e0, good1 hg, if_pos y10, CD_idx h3 h1 h2]
  have el : (E ++ [(x, y)]).length = E.length + 1 := by rw [List.length_append]; rfl
  refine ⟨?_, by omega, h3, ?_, ?_⟩
  · rw [el]; exact suc_of h1 (by omega)
  · intro i z hz
    show (upd k.2.1 (160 * r.toInt.toNat + E.length) p0 (160 * r.toInt.toNat + i)).toInt = z.1 ∧ (upd k.2.2 (160 * r.toInt.toNat + E.length) p1 (160 * r.toInt.toNat + i)).toInt = z.2
    unfold upd
    by_cases w : i = E.length
    · subst w
      rw [List.getElem?_append_right (Nat.le_refl _), Nat.sub_self] at hz
      cases hz
      rw [if_pos rfl, if_pos rfl]
      exact ⟨hx, hy⟩
    · have hlt : i < (E ++ [(x, y)]).length := (List.getElem?_eq_some_iff.mp hz).1
      rw [List.getElem?_append_left (by omega)] at hz
      rw [if_neg (by omega), if_neg (by omega)]
      exact h4 i z hz
  · intro i hi
    show upd k.2.1 (160 * r.toInt.toNat + E.length) p0 i = b i ∧ upd k.2.2 (160 * r.toInt.toNat + E.length) p1 i = c i
    unfold upd
    rw [if_neg (by omega), if_neg (by omega)]
    exact h5 i hi
def em : List Int → List IN
  | [] => []
  | c :: L => (c, 0) :: em L
theorem em_len : ∀ (L : List Int), (em L).length = L.length := by
  intro L
  induction L with
  | nil => rfl
  | cons c L ih => show (em L).length + 1 = L.length + 1; omega
/-- what stays of the signs that wait when a sign comes (p: + or -), and what is put down of them -/
def fR (p : Bool) : List Int → List Int
  | [] => []
  | c :: L => if p = true ∨ (c = 42 ∨ c = 47 ∨ c = 37) then fR p L else c :: L
def fE (p : Bool) : List Int → List IN
  | [] => []
  | c :: L => if p = true ∨ (c = 42 ∨ c = 47 ∨ c = 37) then (c, 0) :: fE p L else []
def jR (p : Bool) : List Int → List Int
  | [] => []
  | c :: L => if p = true ∨ c = 38 then jR p L else c :: L
def jE (p : Bool) : List Int → List IN
  | [] => []
  | c :: L => if p = true ∨ c = 38 then (c, 0) :: jE p L else []
section FRS
variable {p : Bool} {c : Int} {L : List Int}
theorem fR_y (h : p = true ∨ (c = 42 ∨ c = 47 ∨ c = 37)) : fR p (c :: L) = fR p L := by show (if _ then _ else _) = _; rw [if_pos h]
theorem fR_n (h : ¬ (p = true ∨ (c = 42 ∨ c = 47 ∨ c = 37))) : fR p (c :: L) = c :: L := by show (if _ then _ else _) = _; rw [if_neg h]
theorem fE_y (h : p = true ∨ (c = 42 ∨ c = 47 ∨ c = 37)) : fE p (c :: L) = (c, 0) :: fE p L := by show (if _ then _ else _) = _; rw [if_pos h]
theorem fE_n (h : ¬ (p = true ∨ (c = 42 ∨ c = 47 ∨ c = 37))) : fE p (c :: L) = [] := by show (if _ then _ else _) = _; rw [if_neg h]
theorem jR_y (h : p = true ∨ c = 38) : jR p (c :: L) = jR p L := by show (if _ then _ else _) = _; rw [if_pos h]
theorem jR_n (h : ¬ (p = true ∨ c = 38)) : jR p (c :: L) = c :: L := by show (if _ then _ else _) = _; rw [if_neg h]
theorem jE_y (h : p = true ∨ c = 38) : jE p (c :: L) = (c, 0) :: jE p L := by show (if _ then _ else _) = _; rw [if_pos h]
theorem jE_n (h : ¬ (p = true ∨ c = 38)) : jE p (c :: L) = [] := by show (if _ then _ else _) = _; rw [if_neg h]
end FRS
theorem fR_t : ∀ (L : List Int), fR true L = [] := by
  intro L
  induction L with
  | nil => rfl
  | cons c L ih => rw [fR_y (Or.inl rfl)]; exact ih
theorem fE_t : ∀ (L : List Int), fE true L = em L := by
  intro L
  induction L with
  | nil => rfl
  | cons c L ih => rw [fE_y (Or.inl rfl), ih]; rfl
theorem jR_t : ∀ (L : List Int), jR true L = [] := by
  intro L
  induction L with
  | nil => rfl
  | cons c L ih => rw [jR_y (Or.inl rfl)]; exact ih
theorem jE_t : ∀ (L : List Int), jE true L = em L := by
  intro L
  induction L with
  | nil => rfl
  | cons c L ih => rw [jE_y (Or.inl rfl), ih]; rfl
theorem fR_ao {p : Bool} : ∀ {L : List Int}, AO L → AO (fR p L) := by
  intro L
  induction L with
  | nil => intro h; exact h
  | cons c L ih =>
    intro h
    by_cases w : p = true ∨ (c = 42 ∨ c = 47 ∨ c = 37)
    · rw [fR_y w]; exact ih (AO_t h)
    · rw [fR_n w]; exact h
theorem jR_aj {p : Bool} : ∀ {L : List Int}, AJ L → AJ (jR p L) := by
  intro L
  induction L with
  | nil => intro h; exact h
  | cons c L ih =>
    intro h
    by_cases w : p = true ∨ c = 38
    · rw [jR_y w]; exact ih (AJ_t h)
    · rw [jR_n w]; exact h
theorem fRE_len {p : Bool} : ∀ (L : List Int), (fR p L).length + (fE p L).length = L.length := by
  intro L
  induction L with
  | nil => rfl
  | cons c L ih =>
    by_cases w : p = true ∨ (c = 42 ∨ c = 47 ∨ c = 37)
    · rw [fR_y w, fE_y w]; show (fR p L).length + ((fE p L).length + 1) = L.length + 1; omega
    · rw [fR_n w, fE_n w]; rfl
theorem jRE_len {p : Bool} : ∀ (L : List Int), (jR p L).length + (jE p L).length = L.length := by
  intro L
  induction L with
  | nil => rfl
  | cons c L ih =>
    by_cases w : p = true ∨ c = 38
    · rw [jR_y w, jE_y w]; show (jR p L).length + ((jE p L).length + 1) = L.length + 1; omega
    · rw [jR_n w, jE_n w]; rfl
abbrev Q4 := Int32 × Int32 × (Nat → Int32) × (Nat → Int32)
/-- what a run of pops comes to -/
def SO (r : Int32) (b c : Nat → Int32) (E : List IN) (a : Nat → Int32) (S : List Int) (t : Q4) : Prop := t.2.1.toInt = (S.length : Int) ∧ SK a S ∧ CD r b c E (t.1, t.2.2.1, t.2.2.2)
theorem app_c {E : List IN} {x : IN} {F : List IN} : E ++ x :: F = (E ++ [x]) ++ F := by rw [List.append_assoc]; rfl
theorem snoc_len {E : List IN} {x : IN} : (E ++ [x]).length = E.length + 1 := by rw [List.length_append]; rfl
theorem sums_loop {p0 r i11 : Int32} {b c a : Nat → Int32} {h : Int} {S : List Int} {P : Bool} (hg : i11.toInt = 0) (hP : P = true ↔ p0.toInt ≠ 0) (hn : nop h) : ∀ (L : List Int) (f : Nat) (d : Int32) (E : List IN) (k : C3), AO L → L.length < f → (L ++ h :: S).length ≤ 1000 → d.toInt = ((L ++ h :: S).length : Int) → SK a (L ++ h :: S) → CD r b c E k → E.length + L.length ≤ 160 →
    SO r b c (E ++ fE P L) a (fR P L ++ h :: S) (f_m12_sums_j39 p0 r i11 a f k.1 d k.2.1 k.2.2) := by
  have hno : ¬ (h = 42 ∨ h = 47 ∨ h = 37 ∨ h = 43 ∨ h = 45) := hn
  intro L
  induction L with
  | nil =>
    intro f d E k _ hf hl hd hs hC _
    obtain ⟨f, rfl⟩ : ∃ w, f = w + 1 := ⟨f - 1, by omega⟩
    have hl' : S.length + 1 ≤ 1000 := hl
    have hd' : d.toInt = ((S.length + 1 : Nat) : Int) := hd
    have ht := tp_c hd' hs (by omega)
    have hC' : CD r b c (E ++ []) k := by rw [List.append_nil]; exact hC
    show SO r b c (E ++ []) a (h :: S) (if (F_m12_isTimes (F_m12_top d a)).toInt ≠ 0 then f_m12_sums_j39 p0 r i11 a f (F_m12_emit (F_m12_top d a) 0 r i11 k.1 k.2.1 k.2.2).1 (d - 1) (F_m12_emit (F_m12_top d a) 0 r i11 k.1 k.2.1 k.2.2).2.1 (F_m12_emit (F_m12_top d a) 0 r i11 k.1 k.2.1 k.2.2).2.2 else if p0.toInt = 0 then (k.1, d, k.2.1, k.2.2) else if (F_m12_isPlus (F_m12_top d a)).toInt = 0 then (k.1, d, k.2.1, k.2.2) else f_m12_sums_j39 p0 r i11 a f (F_m12_emit (F_m12_top d a) 0 r i11 k.1 k.2.1 k.2.2).1 (d - 1) (F_m12_emit (F_m12_top d a) 0 r i11 k.1 k.2.1 k.2.2).2.1 (F_m12_emit (F_m12_top d a) 0 r i11 k.1 k.2.1 k.2.2).2.2)
    rcases tim (v := F_m12_top d a) with ⟨q, e⟩ | ⟨q, e⟩
    · omega
    · rw [e, if_neg n00]
      by_cases w : p0.toInt = 0
      · rw [if_pos w]; exact ⟨hd, hs, hC'⟩
      · rw [if_neg w]
        rcases plu (v := F_m12_top d a) with ⟨q, e⟩ | ⟨q, e⟩
        · omega
        · rw [e, if_pos y00]; exact ⟨hd, hs, hC'⟩
  | cons x L ih =>
    intro f d E k ho hf hl hd hs hC hE
    obtain ⟨f, rfl⟩ : ∃ w, f = w + 1 := ⟨f - 1, by omega⟩
    have hf' : L.length + 1 < f + 1 := hf
    have hl' : (L ++ h :: S).length + 1 ≤ 1000 := hl
    have hd' : d.toInt = (((L ++ h :: S).length + 1 : Nat) : Int) := hd
    have hs' : SK a (x :: (L ++ h :: S)) := hs
    have hE' : E.length + (L.length + 1) ≤ 160 := hE
    have ht := tp_c hd' hs' (by omega)
    have hc := ho x (List.mem_cons_self ..)
    have hp := pred_of hd' (by omega)
    have hC2 := CD_emit (p1 := 0) hC (by omega) hg ht c0
    have hsn := snoc_len (E := E) (x := (x, 0))
    have g := ih f (d - 1) (E ++ [(x, 0)]) _ (AO_t ho) (by omega) (by omega) hp hs'.2 hC2 (by omega)
    have e0 : f_m12_sums_j39 p0 r i11 a (f + 1) k.1 d k.2.1 k.2.2 = if (F_m12_isTimes (F_m12_top d a)).toInt ≠ 0 then f_m12_sums_j39 p0 r i11 a f (F_m12_emit (F_m12_top d a) 0 r i11 k.1 k.2.1 k.2.2).1 (d - 1) (F_m12_emit (F_m12_top d a) 0 r i11 k.1 k.2.1 k.2.2).2.1 (F_m12_emit (F_m12_top d a) 0 r i11 k.1 k.2.1 k.2.2).2.2 else if p0.toInt = 0 then (k.1, d, k.2.1, k.2.2) else if (F_m12_isPlus (F_m12_top d a)).toInt = 0 then (k.1, d, k.2.1, k.2.2) else f_m12_sums_j39 p0 r i11 a f (F_m12_emit (F_m12_top d a) 0 r i11 k.1 k.2.1 k.2.2).1 (d - 1) (F_m12_emit (F_m12_top d a) 0 r i11 k.1 k.2.1 k.2.2).2.1 (F_m12_emit (F_m12_top d a) 0 r i11 k.1 k.2.1 k.2.2).2.2 := rfl
    rw [e0]
    rcases tim (v := F_m12_top d a) with ⟨q, e⟩ | ⟨q, e⟩
    · rw [e, if_pos y10, fR_y (Or.inr (by omega)), fE_y (Or.inr (by omega)), app_c]
      exact g
    · rw [e, if_neg n00]
      by_cases w : p0.toInt = 0
      · have hw : ¬ (P = true ∨ (x = 42 ∨ x = 47 ∨ x = 37)) := by
          rintro (z | z)
          · exact hP.mp z w
          · omega
        rw [if_pos w, fR_n hw, fE_n hw, List.append_nil]
        exact ⟨hd, hs, hC⟩
      · rw [if_neg w]
        rcases plu (v := F_m12_top d a) with ⟨q2, e2⟩ | ⟨q2, e2⟩
        · rw [e2, if_neg n10, fR_y (Or.inl (hP.mpr w)), fE_y (Or.inl (hP.mpr w)), app_c]
          exact g
        · omega
theorem sums_loop2 {r i11 : Int32} {b c a : Nat → Int32} {h : Int} {S : List Int} (hg : i11.toInt = 0) (hn : nop h) : ∀ (L : List Int) (f : Nat) (d : Int32) (E : List IN) (k : C3), AO L → L.length < f → (L ++ h :: S).length ≤ 1000 → d.toInt = ((L ++ h :: S).length : Int) → SK a (L ++ h :: S) → CD r b c E k → E.length + L.length ≤ 160 →
    SO r b c (E ++ em L) a (h :: S) (f_m12_sums_j177 r i11 a f k.1 d k.2.1 k.2.2) := by
  have hno : ¬ (h = 42 ∨ h = 47 ∨ h = 37 ∨ h = 43 ∨ h = 45) := hn
  intro L
  induction L with
  | nil =>
    intro f d E k _ hf hl hd hs hC _
    obtain ⟨f, rfl⟩ : ∃ w, f = w + 1 := ⟨f - 1, by omega⟩
    have hl' : S.length + 1 ≤ 1000 := hl
    have hd' : d.toInt = ((S.length + 1 : Nat) : Int) := hd
    have ht := tp_c hd' hs (by omega)
    have hC' : CD r b c (E ++ []) k := by rw [List.append_nil]; exact hC
    show SO r b c (E ++ []) a (h :: S) (if (F_m12_isTimes (F_m12_top d a)).toInt ≠ 0 then f_m12_sums_j177 r i11 a f (F_m12_emit (F_m12_top d a) 0 r i11 k.1 k.2.1 k.2.2).1 (d - 1) (F_m12_emit (F_m12_top d a) 0 r i11 k.1 k.2.1 k.2.2).2.1 (F_m12_emit (F_m12_top d a) 0 r i11 k.1 k.2.1 k.2.2).2.2 else if (F_m12_isPlus (F_m12_top d a)).toInt = 0 then (k.1, d, k.2.1, k.2.2) else f_m12_sums_j177 r i11 a f (F_m12_emit (F_m12_top d a) 0 r i11 k.1 k.2.1 k.2.2).1 (d - 1) (F_m12_emit (F_m12_top d a) 0 r i11 k.1 k.2.1 k.2.2).2.1 (F_m12_emit (F_m12_top d a) 0 r i11 k.1 k.2.1 k.2.2).2.2)
    rcases tim (v := F_m12_top d a) with ⟨q, e⟩ | ⟨q, e⟩
    · omega
    · rw [e, if_neg n00]
      rcases plu (v := F_m12_top d a) with ⟨q, e⟩ | ⟨q, e⟩
      · omega
      · rw [e, if_pos y00]; exact ⟨hd, hs, hC'⟩
  | cons x L ih =>
    intro f d E k ho hf hl hd hs hC hE
    obtain ⟨f, rfl⟩ : ∃ w, f = w + 1 := ⟨f - 1, by omega⟩
    have hf' : L.length + 1 < f + 1 := hf
    have hl' : (L ++ h :: S).length + 1 ≤ 1000 := hl
    have hd' : d.toInt = (((L ++ h :: S).length + 1 : Nat) : Int) := hd
    have hs' : SK a (x :: (L ++ h :: S)) := hs
    have hE' : E.length + (L.length + 1) ≤ 160 := hE
    have ht := tp_c hd' hs' (by omega)
    have hc := ho x (List.mem_cons_self ..)
    have hp := pred_of hd' (by omega)
    have hC2 := CD_emit (p1 := 0) hC (by omega) hg ht c0
    have hsn := snoc_len (E := E) (x := (x, 0))
    have g := ih f (d - 1) (E ++ [(x, 0)]) _ (AO_t ho) (by omega) (by omega) hp hs'.2 hC2 (by omega)
    have ee : E ++ em (x :: L) = (E ++ [(x, 0)]) ++ em L := app_c
    have e0 : f_m12_sums_j177 r i11 a (f + 1) k.1 d k.2.1 k.2.2 = if (F_m12_isTimes (F_m12_top d a)).toInt ≠ 0 then f_m12_sums_j177 r i11 a f (F_m12_emit (F_m12_top d a) 0 r i11 k.1 k.2.1 k.2.2).1 (d - 1) (F_m12_emit (F_m12_top d a) 0 r i11 k.1 k.2.1 k.2.2).2.1 (F_m12_emit (F_m12_top d a) 0 r i11 k.1 k.2.1 k.2.2).2.2 else if (F_m12_isPlus (F_m12_top d a)).toInt = 0 then (k.1, d, k.2.1, k.2.2) else f_m12_sums_j177 r i11 a f (F_m12_emit (F_m12_top d a) 0 r i11 k.1 k.2.1 k.2.2).1 (d - 1) (F_m12_emit (F_m12_top d a) 0 r i11 k.1 k.2.1 k.2.2).2.1 (F_m12_emit (F_m12_top d a) 0 r i11 k.1 k.2.1 k.2.2).2.2 := rfl
    rw [e0, ee]
    rcases tim (v := F_m12_top d a) with ⟨q, e⟩ | ⟨q, e⟩
    · rw [e, if_pos y10]; exact g
    · rw [e, if_neg n00]
      rcases plu (v := F_m12_top d a) with ⟨q2, e2⟩ | ⟨q2, e2⟩
      · rw [e2, if_neg n10]; exact g
      · omega
theorem sums_of {p0 d r i11 : Int32} {b c a : Nat → Int32} {h : Int} {S L : List Int} {P : Bool} {E : List IN} {k : C3} (hg : i11.toInt = 0) (hP : P = true ↔ p0.toInt ≠ 0) (hn : nop h) (ho : AO L) (hl : (L ++ h :: S).length ≤ 160) (hd : d.toInt = ((L ++ h :: S).length : Int)) (hs : SK a (L ++ h :: S)) (hC : CD r b c E k) (hE : E.length + L.length ≤ 160) :
    SO r b c (E ++ fE P L) a (fR P L ++ h :: S) (F_m12_sums p0 r i11 k.1 d k.2.1 k.2.2 a) := by
  have e0 : F_m12_sums p0 r i11 k.1 d k.2.1 k.2.2 a = if (F_m12_isTimes (F_m12_top d a)).toInt ≠ 0 then f_m12_sums_j39 p0 r i11 a 160 (F_m12_emit (F_m12_top d a) 0 r i11 k.1 k.2.1 k.2.2).1 (d - 1) (F_m12_emit (F_m12_top d a) 0 r i11 k.1 k.2.1 k.2.2).2.1 (F_m12_emit (F_m12_top d a) 0 r i11 k.1 k.2.1 k.2.2).2.2 else if p0.toInt = 0 then (k.1, d, k.2.1, k.2.2) else if (F_m12_isPlus (F_m12_top d a)).toInt = 0 then (k.1, d, k.2.1, k.2.2) else f_m12_sums_j177 r i11 a 160 (F_m12_emit (F_m12_top d a) 0 r i11 k.1 k.2.1 k.2.2).1 (d - 1) (F_m12_emit (F_m12_top d a) 0 r i11 k.1 k.2.1 k.2.2).2.1 (F_m12_emit (F_m12_top d a) 0 r i11 k.1 k.2.1 k.2.2).2.2 := rfl
  rw [e0]
  have hno : ¬ (h = 42 ∨ h = 47 ∨ h = 37 ∨ h = 43 ∨ h = 45) := hn
  cases L with
  | nil =>
    have hl' : S.length + 1 ≤ 160 := hl
    have hd' : d.toInt = ((S.length + 1 : Nat) : Int) := hd
    have ht := tp_c hd' hs (by omega)
    have hC' : CD r b c (E ++ []) k := by rw [List.append_nil]; exact hC
    show SO r b c (E ++ []) a (h :: S) _
    rcases tim (v := F_m12_top d a) with ⟨q, e⟩ | ⟨q, e⟩
    · omega
    · rw [e, if_neg n00]
      by_cases w : p0.toInt = 0
      · rw [if_pos w]; exact ⟨hd, hs, hC'⟩
      · rw [if_neg w]
        rcases plu (v := F_m12_top d a) with ⟨q, e⟩ | ⟨q, e⟩
        · omega
        · rw [e, if_pos y00]; exact ⟨hd, hs, hC'⟩
  | cons x L =>
    have hl' : (L ++ h :: S).length + 1 ≤ 160 := hl
    have hd' : d.toInt = (((L ++ h :: S).length + 1 : Nat) : Int) := hd
    have hs' : SK a (x :: (L ++ h :: S)) := hs
    have hE' : E.length + (L.length + 1) ≤ 160 := hE
    have ht := tp_c hd' hs' (by omega)
    have hc := ho x (List.mem_cons_self ..)
    have hp := pred_of hd' (by omega)
    have hla := len_app (L := L) (h := h) (S := S)
    have hC2 := CD_emit (p1 := 0) hC (by omega) hg ht c0
    have hsn := snoc_len (E := E) (x := (x, 0))
    rcases tim (v := F_m12_top d a) with ⟨q, e⟩ | ⟨q, e⟩
    · rw [e, if_pos y10, fR_y (Or.inr (by omega)), fE_y (Or.inr (by omega)), app_c]
      exact sums_loop hg hP hn L 160 (d - 1) _ _ (AO_t ho) (by omega) (by omega) hp hs'.2 hC2 (by omega)
    · rw [e, if_neg n00]
      by_cases w : p0.toInt = 0
      · have hw : ¬ (P = true ∨ (x = 42 ∨ x = 47 ∨ x = 37)) := by
          rintro (z | z)
          · exact hP.mp z w
          · omega
        rw [if_pos w, fR_n hw, fE_n hw, List.append_nil]
        exact ⟨hd, hs, hC⟩
      · have hPt : P = true := hP.mpr w
        rw [if_neg w]
        rcases plu (v := F_m12_top d a) with ⟨q2, e2⟩ | ⟨q2, e2⟩
        · rw [e2, if_neg n10, fR_y (Or.inl hPt), fE_y (Or.inl hPt), app_c]
          subst hPt
          rw [fR_t, fE_t]
          exact sums_loop2 hg hn L 160 (d - 1) _ _ (AO_t ho) (by omega) (by omega) hp hs'.2 hC2 (by omega)
        · omega
theorem joins_loop {p0 r i11 : Int32} {b c a : Nat → Int32} {S : List Int} {P : Bool} (hg : i11.toInt = 0) (hP : P = true ↔ p0.toInt ≠ 0) : ∀ (L : List Int) (f : Nat) (d : Int32) (E : List IN) (k : C3), AJ L → L.length < f → (L ++ 40 :: S).length ≤ 1000 → d.toInt = ((L ++ 40 :: S).length : Int) → SK a (L ++ 40 :: S) → CD r b c E k → E.length + L.length ≤ 160 →
    SO r b c (E ++ jE P L) a (jR P L ++ 40 :: S) (f_m12_joins_j36 p0 r i11 a f k.1 d k.2.1 k.2.2) := by
  intro L
  induction L with
  | nil =>
    intro f d E k _ hf hl hd hs hC _
    obtain ⟨f, rfl⟩ : ∃ w, f = w + 1 := ⟨f - 1, by omega⟩
    have hl' : S.length + 1 ≤ 1000 := hl
    have hd' : d.toInt = ((S.length + 1 : Nat) : Int) := hd
    have ht := tp_c hd' hs (by omega)
    have hC' : CD r b c (E ++ []) k := by rw [List.append_nil]; exact hC
    show SO r b c (E ++ []) a (40 :: S) (if (F_m12_top d a).toInt = 38 then f_m12_joins_j36 p0 r i11 a f (F_m12_emit (F_m12_top d a) 0 r i11 k.1 k.2.1 k.2.2).1 (d - 1) (F_m12_emit (F_m12_top d a) 0 r i11 k.1 k.2.1 k.2.2).2.1 (F_m12_emit (F_m12_top d a) 0 r i11 k.1 k.2.1 k.2.2).2.2 else if p0.toInt = 0 then (k.1, d, k.2.1, k.2.2) else if (F_m12_top d a).toInt ≠ 124 then (k.1, d, k.2.1, k.2.2) else f_m12_joins_j36 p0 r i11 a f (F_m12_emit (F_m12_top d a) 0 r i11 k.1 k.2.1 k.2.2).1 (d - 1) (F_m12_emit (F_m12_top d a) 0 r i11 k.1 k.2.1 k.2.2).2.1 (F_m12_emit (F_m12_top d a) 0 r i11 k.1 k.2.1 k.2.2).2.2)
    rcases Decidable.em ((F_m12_top d a).toInt = 38) with q | q
    · omega
    · rw [if_neg q]
      by_cases w : p0.toInt = 0
      · rw [if_pos w]; exact ⟨hd, hs, hC'⟩
      · rw [if_neg w]
        rcases Decidable.em ((F_m12_top d a).toInt = 124) with q2 | q2
        · omega
        · rw [if_pos q2]; exact ⟨hd, hs, hC'⟩
  | cons x L ih =>
    intro f d E k ho hf hl hd hs hC hE
    obtain ⟨f, rfl⟩ : ∃ w, f = w + 1 := ⟨f - 1, by omega⟩
    have hf' : L.length + 1 < f + 1 := hf
    have hl' : (L ++ 40 :: S).length + 1 ≤ 1000 := hl
    have hd' : d.toInt = (((L ++ 40 :: S).length + 1 : Nat) : Int) := hd
    have hs' : SK a (x :: (L ++ 40 :: S)) := hs
    have hE' : E.length + (L.length + 1) ≤ 160 := hE
    have ht := tp_c hd' hs' (by omega)
    have hc := ho x (List.mem_cons_self ..)
    have hp := pred_of hd' (by omega)
    have hC2 := CD_emit (p1 := 0) hC (by omega) hg ht c0
    have hsn := snoc_len (E := E) (x := (x, 0))
    have g := ih f (d - 1) (E ++ [(x, 0)]) _ (AJ_t ho) (by omega) (by omega) hp hs'.2 hC2 (by omega)
    have e0 : f_m12_joins_j36 p0 r i11 a (f + 1) k.1 d k.2.1 k.2.2 = if (F_m12_top d a).toInt = 38 then f_m12_joins_j36 p0 r i11 a f (F_m12_emit (F_m12_top d a) 0 r i11 k.1 k.2.1 k.2.2).1 (d - 1) (F_m12_emit (F_m12_top d a) 0 r i11 k.1 k.2.1 k.2.2).2.1 (F_m12_emit (F_m12_top d a) 0 r i11 k.1 k.2.1 k.2.2).2.2 else if p0.toInt = 0 then (k.1, d, k.2.1, k.2.2) else if (F_m12_top d a).toInt ≠ 124 then (k.1, d, k.2.1, k.2.2) else f_m12_joins_j36 p0 r i11 a f (F_m12_emit (F_m12_top d a) 0 r i11 k.1 k.2.1 k.2.2).1 (d - 1) (F_m12_emit (F_m12_top d a) 0 r i11 k.1 k.2.1 k.2.2).2.1 (F_m12_emit (F_m12_top d a) 0 r i11 k.1 k.2.1 k.2.2).2.2 := rfl
    rw [e0]
    rcases Decidable.em ((F_m12_top d a).toInt = 38) with q | q
    · rw [if_pos q, jR_y (Or.inr (by omega)), jE_y (Or.inr (by omega)), app_c]
      exact g
    · rw [if_neg q]
      by_cases w : p0.toInt = 0
      · have hw : ¬ (P = true ∨ x = 38) := by
          rintro (z | z)
          · exact hP.mp z w
          · omega
        rw [if_pos w, jR_n hw, jE_n hw, List.append_nil]
        exact ⟨hd, hs, hC⟩
      · rw [if_neg w]
        rcases Decidable.em ((F_m12_top d a).toInt = 124) with q2 | q2
        · rw [if_neg (by omega), jR_y (Or.inl (hP.mpr w)), jE_y (Or.inl (hP.mpr w)), app_c]
          exact g
        · omega
theorem joins_loop2 {r i11 : Int32} {b c a : Nat → Int32} {S : List Int} (hg : i11.toInt = 0) : ∀ (L : List Int) (f : Nat) (d : Int32) (E : List IN) (k : C3), AJ L → L.length < f → (L ++ 40 :: S).length ≤ 1000 → d.toInt = ((L ++ 40 :: S).length : Int) → SK a (L ++ 40 :: S) → CD r b c E k → E.length + L.length ≤ 160 →
    SO r b c (E ++ em L) a (40 :: S) (f_m12_joins_j165 r i11 a f k.1 d k.2.1 k.2.2) := by
  intro L
  induction L with
  | nil =>
    intro f d E k _ hf hl hd hs hC _
    obtain ⟨f, rfl⟩ : ∃ w, f = w + 1 := ⟨f - 1, by omega⟩
    have hl' : S.length + 1 ≤ 1000 := hl
    have hd' : d.toInt = ((S.length + 1 : Nat) : Int) := hd
    have ht := tp_c hd' hs (by omega)
    have hC' : CD r b c (E ++ []) k := by rw [List.append_nil]; exact hC
    show SO r b c (E ++ []) a (40 :: S) (if (F_m12_top d a).toInt = 38 then f_m12_joins_j165 r i11 a f (F_m12_emit (F_m12_top d a) 0 r i11 k.1 k.2.1 k.2.2).1 (d - 1) (F_m12_emit (F_m12_top d a) 0 r i11 k.1 k.2.1 k.2.2).2.1 (F_m12_emit (F_m12_top d a) 0 r i11 k.1 k.2.1 k.2.2).2.2 else if (F_m12_top d a).toInt ≠ 124 then (k.1, d, k.2.1, k.2.2) else f_m12_joins_j165 r i11 a f (F_m12_emit (F_m12_top d a) 0 r i11 k.1 k.2.1 k.2.2).1 (d - 1) (F_m12_emit (F_m12_top d a) 0 r i11 k.1 k.2.1 k.2.2).2.1 (F_m12_emit (F_m12_top d a) 0 r i11 k.1 k.2.1 k.2.2).2.2)
    rcases Decidable.em ((F_m12_top d a).toInt = 38) with q | q
    · omega
    · rw [if_neg q]
      rcases Decidable.em ((F_m12_top d a).toInt = 124) with q2 | q2
      · omega
      · rw [if_pos q2]; exact ⟨hd, hs, hC'⟩
  | cons x L ih =>
    intro f d E k ho hf hl hd hs hC hE
    obtain ⟨f, rfl⟩ : ∃ w, f = w + 1 := ⟨f - 1, by omega⟩
    have hf' : L.length + 1 < f + 1 := hf
    have hl' : (L ++ 40 :: S).length + 1 ≤ 1000 := hl
    have hd' : d.toInt = (((L ++ 40 :: S).length + 1 : Nat) : Int) := hd
    have hs' : SK a (x :: (L ++ 40 :: S)) := hs
    have hE' : E.length + (L.length + 1) ≤ 160 := hE
    have ht := tp_c hd' hs' (by omega)
    have hc := ho x (List.mem_cons_self ..)
    have hp := pred_of hd' (by omega)
    have hC2 := CD_emit (p1 := 0) hC (by omega) hg ht c0
    have hsn := snoc_len (E := E) (x := (x, 0))
    have g := ih f (d - 1) (E ++ [(x, 0)]) _ (AJ_t ho) (by omega) (by omega) hp hs'.2 hC2 (by omega)
    have ee : E ++ em (x :: L) = (E ++ [(x, 0)]) ++ em L := app_c
    have e0 : f_m12_joins_j165 r i11 a (f + 1) k.1 d k.2.1 k.2.2 = if (F_m12_top d a).toInt = 38 then f_m12_joins_j165 r i11 a f (F_m12_emit (F_m12_top d a) 0 r i11 k.1 k.2.1 k.2.2).1 (d - 1) (F_m12_emit (F_m12_top d a) 0 r i11 k.1 k.2.1 k.2.2).2.1 (F_m12_emit (F_m12_top d a) 0 r i11 k.1 k.2.1 k.2.2).2.2 else if (F_m12_top d a).toInt ≠ 124 then (k.1, d, k.2.1, k.2.2) else f_m12_joins_j165 r i11 a f (F_m12_emit (F_m12_top d a) 0 r i11 k.1 k.2.1 k.2.2).1 (d - 1) (F_m12_emit (F_m12_top d a) 0 r i11 k.1 k.2.1 k.2.2).2.1 (F_m12_emit (F_m12_top d a) 0 r i11 k.1 k.2.1 k.2.2).2.2 := rfl
    rw [e0, ee]
    rcases Decidable.em ((F_m12_top d a).toInt = 38) with q | q
    · rw [if_pos q]; exact g
    · rw [if_neg q]
      rcases Decidable.em ((F_m12_top d a).toInt = 124) with q2 | q2
      · rw [if_neg (by omega)]; exact g
      · omega
theorem joins_of {p0 d r i11 : Int32} {b c a : Nat → Int32} {S L : List Int} {P : Bool} {E : List IN} {k : C3} (hg : i11.toInt = 0) (hP : P = true ↔ p0.toInt ≠ 0) (ho : AJ L) (hl : (L ++ 40 :: S).length ≤ 160) (hd : d.toInt = ((L ++ 40 :: S).length : Int)) (hs : SK a (L ++ 40 :: S)) (hC : CD r b c E k) (hE : E.length + L.length ≤ 160) :
    SO r b c (E ++ jE P L) a (jR P L ++ 40 :: S) (F_m12_joins p0 r i11 k.1 d k.2.1 k.2.2 a) := by
  have e0 : F_m12_joins p0 r i11 k.1 d k.2.1 k.2.2 a = if (F_m12_top d a).toInt = 38 then f_m12_joins_j36 p0 r i11 a 160 (F_m12_emit (F_m12_top d a) 0 r i11 k.1 k.2.1 k.2.2).1 (d - 1) (F_m12_emit (F_m12_top d a) 0 r i11 k.1 k.2.1 k.2.2).2.1 (F_m12_emit (F_m12_top d a) 0 r i11 k.1 k.2.1 k.2.2).2.2 else if p0.toInt = 0 then (k.1, d, k.2.1, k.2.2) else if (F_m12_top d a).toInt ≠ 124 then (k.1, d, k.2.1, k.2.2) else f_m12_joins_j165 r i11 a 160 (F_m12_emit (F_m12_top d a) 0 r i11 k.1 k.2.1 k.2.2).1 (d - 1) (F_m12_emit (F_m12_top d a) 0 r i11 k.1 k.2.1 k.2.2).2.1 (F_m12_emit (F_m12_top d a) 0 r i11 k.1 k.2.1 k.2.2).2.2 := rfl
  rw [e0]
  cases L with
  | nil =>
    have hl' : S.length + 1 ≤ 160 := hl
    have hd' : d.toInt = ((S.length + 1 : Nat) : Int) := hd
    have ht := tp_c hd' hs (by omega)
    have hC' : CD r b c (E ++ []) k := by rw [List.append_nil]; exact hC
    show SO r b c (E ++ []) a (40 :: S) _
    rcases Decidable.em ((F_m12_top d a).toInt = 38) with q | q
    · omega
    · rw [if_neg q]
      by_cases w : p0.toInt = 0
      · rw [if_pos w]; exact ⟨hd, hs, hC'⟩
      · rw [if_neg w]
        rcases Decidable.em ((F_m12_top d a).toInt = 124) with q2 | q2
        · omega
        · rw [if_pos q2]; exact ⟨hd, hs, hC'⟩
  | cons x L =>
    have hl' : (L ++ 40 :: S).length + 1 ≤ 160 := hl
    have hd' : d.toInt = (((L ++ 40 :: S).length + 1 : Nat) : Int) := hd
    have hs' : SK a (x :: (L ++ 40 :: S)) := hs
    have hE' : E.length + (L.length + 1) ≤ 160 := hE
    have ht := tp_c hd' hs' (by omega)
    have hc := ho x (List.mem_cons_self ..)
    have hp := pred_of hd' (by omega)
    have hla := len_app (L := L) (h := 40) (S := S)
    have hC2 := CD_emit (p1 := 0) hC (by omega) hg ht c0
    have hsn := snoc_len (E := E) (x := (x, 0))
    rcases Decidable.em ((F_m12_top d a).toInt = 38) with q | q
    · rw [if_pos q, jR_y (Or.inr (by omega)), jE_y (Or.inr (by omega)), app_c]
      exact joins_loop hg hP L 160 (d - 1) _ _ (AJ_t ho) (by omega) (by omega) hp hs'.2 hC2 (by omega)
    · rw [if_neg q]
      by_cases w : p0.toInt = 0
      · have hw : ¬ (P = true ∨ x = 38) := by
          rintro (z | z)
          · exact hP.mp z w
          · omega
        rw [if_pos w, jR_n hw, jE_n hw, List.append_nil]
        exact ⟨hd, hs, hC⟩
      · have hPt : P = true := hP.mpr w
        rw [if_neg w]
        rcases Decidable.em ((F_m12_top d a).toInt = 124) with q2 | q2
        · rw [if_neg (by omega), jR_y (Or.inl hPt), jE_y (Or.inl hPt), app_c]
          subst hPt
          rw [jR_t, jE_t]
          exact joins_loop2 hg L 160 (d - 1) _ _ (AJ_t ho) (by omega) (by omega) hp hs'.2 hC2 (by omega)
        · omega
def dB : List Int → List Int
  | [] => []
  | c :: S => if c = 33 then dB S else c :: S
theorem dB_n {c : Int} {S : List Int} (h : c ≠ 33) : dB (c :: S) = c :: S := by
  show (if c = 33 then dB S else c :: S) = _
  rw [if_neg h]
theorem dB_y {S : List Int} : dB (33 :: S) = dB S := by
  show (if (33 : Int) = 33 then dB S else 33 :: S) = _
  rw [if_pos rfl]
theorem dB_l : ∀ (S : List Int), (dB S).length ≤ S.length := by
  intro S
  induction S with
  | nil => exact Nat.le_refl _
  | cons c S ih =>
    by_cases h : c = 33
    · subst h; rw [dB_y]; exact Nat.le_succ_of_le ih
    · rw [dB_n h]; exact Nat.le_refl _
theorem cn_l : ∀ (S : List Int), cn S ≤ S.length := by
  intro S
  induction S with
  | nil => exact Nat.le_refl _
  | cons c S ih =>
    show (if c = 40 ∨ c = 91 ∨ c = 33 then 1 else 0) + cn S ≤ S.length + 1
    split <;> omega
/-- ! are put down and gone -/
def dE : List Int → List IN
  | [] => []
  | c :: S => if c = 33 then (2, 0) :: dE S else []
theorem dE_n {c : Int} {S : List Int} (h : c ≠ 33) : dE (c :: S) = [] := by
  show (if c = 33 then (2, 0) :: dE S else []) = _
  rw [if_neg h]
theorem dE_y {S : List Int} : dE (33 :: S) = (2, 0) :: dE S := by
  show (if (33 : Int) = 33 then (2, 0) :: dE S else []) = _
  rw [if_pos rfl]
theorem dBE_len : ∀ (S : List Int), (dB S).length + (dE S).length = S.length := by
  intro S
  induction S with
  | nil => rfl
  | cons c S ih =>
    by_cases h : c = 33
    · subst h; rw [dB_y, dE_y]; show (dB S).length + ((dE S).length + 1) = S.length + 1; omega
    · rw [dB_n h, dE_n h]; rfl
theorem c2i : (2 : Int32).toInt = 2 := by decide
abbrev Q5 := Int32 × Int32 × Int32 × (Nat → Int32) × (Nat → Int32)
def EO (r : Int32) (b c : Nat → Int32) (E : List IN) (a : Nat → Int32) (S : List Int) (t : Q5) : Prop := t.2.1.toInt = (cn S : Int) ∧ t.2.2.1.toInt = (S.length : Int) ∧ SK a S ∧ CD r b c E (t.1, t.2.2.2.1, t.2.2.2.2)
theorem ends_loop {r i11 : Int32} {b c a : Nat → Int32} (hg : i11.toInt = 0) : ∀ (S : List Int) (f : Nat) (d o : Int32) (E : List IN) (k : C3), S.length < f → S.length ≤ 1000 → d.toInt = (S.length : Int) → o.toInt = (cn S : Int) → SK a S → CD r b c E k → E.length + S.length ≤ 160 →
    EO r b c (E ++ dE S) a (dB S) (f_m12_ends_j32 r i11 a f k.1 o d k.2.1 k.2.2) := by
  intro S
  induction S with
  | nil =>
    intro f d o E k hf hl hd ho hs hC _
    obtain ⟨f, rfl⟩ : ∃ w, f = w + 1 := ⟨f - 1, by omega⟩
    have ht := tp_0 (a := a) (i15 := d) (by rw [hd]; rfl)
    have e0 : f_m12_ends_j32 r i11 a (f + 1) k.1 o d k.2.1 k.2.2 = if (F_m12_top d a).toInt ≠ 33 then (k.1, o, d, k.2.1, k.2.2) else f_m12_ends_j32 r i11 a f (F_m12_emit 2 0 r i11 k.1 k.2.1 k.2.2).1 (o - 1) (d - 1) (F_m12_emit 2 0 r i11 k.1 k.2.1 k.2.2).2.1 (F_m12_emit 2 0 r i11 k.1 k.2.1 k.2.2).2.2 := rfl
    rw [e0, if_pos (by omega)]
    exact ⟨ho, hd, hs, by show CD r b c (E ++ []) k; rw [List.append_nil]; exact hC⟩
  | cons x S ih =>
    intro f d o E k hf hl hd ho hs hC hE
    obtain ⟨f, rfl⟩ : ∃ w, f = w + 1 := ⟨f - 1, by omega⟩
    have hf' : S.length + 1 < f + 1 := hf
    have hl' : S.length + 1 ≤ 1000 := hl
    have hE' : E.length + (S.length + 1) ≤ 160 := hE
    have hd' : d.toInt = ((S.length + 1 : Nat) : Int) := hd
    have ht := tp_c hd' hs (by omega)
    have e0 : f_m12_ends_j32 r i11 a (f + 1) k.1 o d k.2.1 k.2.2 = if (F_m12_top d a).toInt ≠ 33 then (k.1, o, d, k.2.1, k.2.2) else f_m12_ends_j32 r i11 a f (F_m12_emit 2 0 r i11 k.1 k.2.1 k.2.2).1 (o - 1) (d - 1) (F_m12_emit 2 0 r i11 k.1 k.2.1 k.2.2).2.1 (F_m12_emit 2 0 r i11 k.1 k.2.1 k.2.2).2.2 := rfl
    rw [e0]
    by_cases h : x = 33
    · subst h
      rw [if_neg (by omega), dB_y, dE_y, app_c]
      have hcl := cn_l S
      rw [cn_y (by omega)] at ho
      have hC2 := CD_emit (p0 := 2) (p1 := 0) hC (by omega) hg c2i c0
      have hsn := snoc_len (E := E) (x := (2, 0))
      exact ih f (d - 1) (o - 1) _ _ (by omega) (by omega) (pred_of hd' (by omega)) (pred_of ho (by omega)) hs.2 hC2 (by omega)
    · rw [if_pos (by omega), dB_n h, dE_n h, List.append_nil]
      exact ⟨ho, hd, hs, hC⟩
theorem ends_of {r i11 : Int32} {b c a : Nat → Int32} {S : List Int} {d o : Int32} {E : List IN} {k : C3} (hg : i11.toInt = 0) (hl : S.length ≤ 160) (hd : d.toInt = (S.length : Int)) (ho : o.toInt = (cn S : Int)) (hs : SK a S) (hC : CD r b c E k) (hE : E.length + S.length ≤ 160) :
    EO r b c (E ++ dE S) a (dB S) (F_m12_ends r i11 k.1 o d k.2.1 k.2.2 a) := by
  have e0 : F_m12_ends r i11 k.1 o d k.2.1 k.2.2 a = if (F_m12_top d a).toInt ≠ 33 then (k.1, o, d, k.2.1, k.2.2) else f_m12_ends_j32 r i11 a 160 (F_m12_emit 2 0 r i11 k.1 k.2.1 k.2.2).1 (o - 1) (d - 1) (F_m12_emit 2 0 r i11 k.1 k.2.1 k.2.2).2.1 (F_m12_emit 2 0 r i11 k.1 k.2.1 k.2.2).2.2 := rfl
  rw [e0]
  cases S with
  | nil =>
    have ht := tp_0 (a := a) (i15 := d) (by rw [hd]; rfl)
    rw [if_pos (by omega)]
    exact ⟨ho, hd, hs, by show CD r b c (E ++ []) k; rw [List.append_nil]; exact hC⟩
  | cons x S =>
    have hl' : S.length + 1 ≤ 160 := hl
    have hE' : E.length + (S.length + 1) ≤ 160 := hE
    have hd' : d.toInt = ((S.length + 1 : Nat) : Int) := hd
    have ht := tp_c hd' hs (by omega)
    by_cases h : x = 33
    · subst h
      rw [if_neg (by omega), dB_y, dE_y, app_c]
      have hcl := cn_l S
      rw [cn_y (by omega)] at ho
      have hC2 := CD_emit (p0 := 2) (p1 := 0) hC (by omega) hg c2i c0
      have hsn := snoc_len (E := E) (x := (2, 0))
      exact ends_loop hg S 160 (d - 1) (o - 1) _ _ (by omega) (by omega) (pred_of hd' (by omega)) (pred_of ho (by omega)) hs.2 hC2 (by omega)
    · rw [if_pos (by omega), dB_n h, dE_n h, List.append_nil]
      exact ⟨ho, hd, hs, hC⟩
