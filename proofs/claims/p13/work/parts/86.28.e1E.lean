/-! running the code of a condition: a stack of (value, whether it is REFUSED), the top first -/
abbrev VR := Int32 × Bool
noncomputable def bI (b : Bool) : Int32 := if b = true then 1 else 0
theorem bI_t : bI true = 1 := rfl
theorem bI_f : bI false = 0 := rfl
noncomputable def dox (c : Int) (a b : VR) : VR :=
  if c = 38 then (if a.2 = true ∨ a.1.toInt ≠ 1 then a else b) else if c = 124 then (if a.2 = true ∨ a.1.toInt ≠ 0 then a else b)
  else (F_m12_worked (Int32.ofInt c) a.1 b.1, a.2 || b.2 || ((decide (c = 47) || decide (c = 37)) && decide (b.1.toInt = 0)))
noncomputable def ex1 (ev : Int → Int32) (x : IN) (S : List VR) : Option (List VR) :=
  if x.1 = 0 then some ((Int32.ofInt x.2, false) :: S) else if x.1 = 1 then some ((ev x.2, false) :: S)
  else if x.1 = 2 then (match S with | a :: S => some ((1 - a.1, a.2) :: S) | [] => none)
  else (match S with | b :: a :: S => some (dox x.1 a b :: S) | _ => none)
noncomputable def exo (ev : Int → Int32) : List IN → List VR → Option (List VR)
  | [], S => some S
  | x :: W, S => (ex1 ev x S).bind (exo ev W)
theorem exo_app {ev : Int → Int32} : ∀ (W1 W2 : List IN) (S : List VR), exo ev (W1 ++ W2) S = (exo ev W1 S).bind (exo ev W2) := by
  intro W1
  induction W1 with
  | nil => intro W2 S; rfl
  | cons x W1 ih =>
    intro W2 S
    show (ex1 ev x S).bind (exo ev (W1 ++ W2)) = ((ex1 ev x S).bind (exo ev W1)).bind (exo ev W2)
    cases ex1 ev x S with
    | none => rfl
    | some S' => exact ih W2 S'
theorem exo_then {ev : Int → Int32} {W1 W2 : List IN} {S S1 : List VR} (h : exo ev W1 S = some S1) : exo ev (W1 ++ W2) S = exo ev W2 S1 := by
  rw [exo_app, h]; rfl
theorem exo_cons {ev : Int → Int32} {x : IN} {W : List IN} {S S1 : List VR} (h : ex1 ev x S = some S1) : exo ev (x :: W) S = exo ev W S1 := by
  show (ex1 ev x S).bind (exo ev W) = _
  rw [h]; rfl
theorem ex_num {ev : Int → Int32} {v : Int} {S : List VR} : ex1 ev (0, v) S = some ((Int32.ofInt v, false) :: S) := rfl
theorem ex_let {ev : Int → Int32} {v : Int} {S : List VR} : ex1 ev (1, v) S = some ((ev v, false) :: S) := by
  show (if (1 : Int) = 0 then _ else if (1 : Int) = 1 then some ((ev v, false) :: S) else _) = _
  rw [if_neg (by decide), if_pos rfl]
theorem ex_not {ev : Int → Int32} {v : Int} {a : VR} {S : List VR} : ex1 ev (2, v) (a :: S) = some ((1 - a.1, a.2) :: S) := by
  show (if (2 : Int) = 0 then _ else if (2 : Int) = 1 then _ else if (2 : Int) = 2 then some ((1 - a.1, a.2) :: S) else _) = _
  rw [if_neg (by decide), if_neg (by decide), if_pos rfl]
theorem ex_op {ev : Int → Int32} {c v : Int} {a b : VR} {S : List VR} (hc : 2 < c) : ex1 ev (c, v) (b :: a :: S) = some (dox c a b :: S) := by
  show (if c = 0 then _ else if c = 1 then _ else if c = 2 then _ else some (dox c a b :: S)) = _
  rw [if_neg (by omega), if_neg (by omega), if_neg (by omega)]
theorem dox_ar {c : Int} {a b : VR} (h : c ≠ 38) (h2 : c ≠ 124) : dox c a b = (F_m12_worked (Int32.ofInt c) a.1 b.1, a.2 || b.2 || ((decide (c = 47) || decide (c = 37)) && decide (b.1.toInt = 0))) := by
  unfold dox; rw [if_neg h, if_neg h2]
theorem wk_tim {a b : Int32} : F_m12_worked (Int32.ofInt 42) a b = a * b := rfl
theorem wk_div {a b : Int32} : F_m12_worked (Int32.ofInt 47) a b = if b.toInt ≠ 0 then a / b else 0 := rfl
theorem wk_mod {a b : Int32} : F_m12_worked (Int32.ofInt 37) a b = if b.toInt ≠ 0 then a - a / b * b else 0 := rfl
theorem wk_add {a b : Int32} : F_m12_worked (Int32.ofInt 43) a b = a + b := rfl
theorem wk_sub {a b : Int32} : F_m12_worked (Int32.ofInt 45) a b = a - b := rfl
theorem wk_lt {a b : Int32} : F_m12_worked (Int32.ofInt 60) a b = if a.toInt ≥ b.toInt then 0 else 1 := rfl
theorem wk_gt {a b : Int32} : F_m12_worked (Int32.ofInt 62) a b = if a.toInt ≤ b.toInt then 0 else 1 := rfl
theorem wk_eq {a b : Int32} : F_m12_worked (Int32.ofInt 61) a b = if a.toInt ≠ b.toInt then 0 else 1 := rfl
/-- a sign that waits, with what stands left of it -/
abbrev PD := Option (Int × VR)
noncomputable def oL : PD → List Int
  | none => []
  | some z => [z.1]
noncomputable def oS : PD → List VR → List VR
  | none, S => S
  | some z, S => z.2 :: S
noncomputable def oV : PD → VR → VR
  | none, x => x
  | some z, x => dox z.1 z.2 x
noncomputable def oR : PD → Bool
  | none => false
  | some z => z.2.2
theorem exo_o {ev : Int → Int32} {z : PD} {x : VR} {S : List VR} (h : ∀ q, z = some q → 2 < q.1) : exo ev (em (oL z)) (x :: oS z S) = some (oV z x :: S) := by
  cases z with
  | none => rfl
  | some q =>
    have := h q rfl
    show exo ev [(q.1, 0)] (x :: q.2 :: S) = _
    rw [exo_cons (ex_op this)]; rfl
theorem em_app : ∀ (L M : List Int), em (L ++ M) = em L ++ em M := by
  intro L
  induction L with
  | nil => intro M; rfl
  | cons c L ih => intro M; show (c, 0) :: em (L ++ M) = (c, 0) :: (em L ++ em M); rw [ih]
noncomputable def tO (z : PD) : Prop := ∀ q, z = some q → q.1 = 42 ∨ q.1 = 47 ∨ q.1 = 37
noncomputable def sO (z : PD) : Prop := ∀ q, z = some q → q.1 = 43 ∨ q.1 = 45
theorem tO_n : tO none := fun _ h => by cases h
theorem sO_n : sO none := fun _ h => by cases h
theorem tO_s {q : Int × VR} (h : q.1 = 42 ∨ q.1 = 47 ∨ q.1 = 37) : tO (some q) := fun _ e => by cases e; exact h
theorem sO_s {q : Int × VR} (h : q.1 = 43 ∨ q.1 = 45) : sO (some q) := fun _ e => by cases e; exact h
theorem fR_o {tp sp : PD} (ht : tO tp) (hs : sO sp) : fR false (oL tp ++ oL sp) = oL sp ∧ fE false (oL tp ++ oL sp) = em (oL tp) := by
  have h0 : fR false (oL sp) = oL sp ∧ fE false (oL sp) = [] := by
    cases sp with
    | none => exact ⟨rfl, rfl⟩
    | some q =>
      have h := hs q rfl
      have n : ¬ (false = true ∨ (q.1 = 42 ∨ q.1 = 47 ∨ q.1 = 37)) := by
        rintro (z | z)
        · cases z
        · omega
      exact ⟨fR_n n, fE_n n⟩
  cases tp with
  | none => exact h0
  | some q =>
    have h := ht q rfl
    have e1 : fR false (q.1 :: oL sp) = fR false (oL sp) := fR_y (Or.inr h)
    have e2 : fE false (q.1 :: oL sp) = (q.1, 0) :: fE false (oL sp) := fE_y (Or.inr h)
    exact ⟨e1.trans h0.1, e2.trans (by rw [h0.2]; rfl)⟩
