/-- what the code consists of -/
theorem em_pos : ∀ (L : List Int), (∀ c ∈ L, 0 ≤ c) → ∀ x ∈ em L, 0 ≤ x.1 := by
  intro L
  induction L with
  | nil => intro _ x hx; cases hx
  | cons c L ih =>
    intro h x hx
    rcases List.mem_cons.mp hx with e | e
    · rw [e]; exact h c (List.mem_cons_self ..)
    · exact ih (fun d hd => h d (List.mem_cons_of_mem _ hd)) x e
theorem fE_pos {p : Bool} : ∀ (L : List Int), (∀ c ∈ L, 0 ≤ c) → (∀ x ∈ fE p L, 0 ≤ x.1) ∧ ∀ c ∈ fR p L, 0 ≤ c := by
  intro L
  induction L with
  | nil => intro _; exact ⟨fun x hx => absurd hx List.not_mem_nil, fun x hx => absurd hx List.not_mem_nil⟩
  | cons c L ih =>
    intro h
    have h' := ih (fun d hd => h d (List.mem_cons_of_mem _ hd))
    by_cases w : p = true ∨ (c = 42 ∨ c = 47 ∨ c = 37)
    · rw [fE_y w, fR_y w]
      refine ⟨fun x hx => ?_, h'.2⟩
      rcases List.mem_cons.mp hx with e | e
      · rw [e]; exact h c (List.mem_cons_self ..)
      · exact h'.1 x e
    · rw [fE_n w, fR_n w]
      exact ⟨fun x hx => absurd hx List.not_mem_nil, h⟩
theorem jE_pos {p : Bool} : ∀ (L : List Int), (∀ c ∈ L, 0 ≤ c) → (∀ x ∈ jE p L, 0 ≤ x.1) ∧ ∀ c ∈ jR p L, 0 ≤ c := by
  intro L
  induction L with
  | nil => intro _; exact ⟨fun x hx => absurd hx List.not_mem_nil, fun x hx => absurd hx List.not_mem_nil⟩
  | cons c L ih =>
    intro h
    have h' := ih (fun d hd => h d (List.mem_cons_of_mem _ hd))
    by_cases w : p = true ∨ c = 38
    · rw [jE_y w, jR_y w]
      refine ⟨fun x hx => ?_, h'.2⟩
      rcases List.mem_cons.mp hx with e | e
      · rw [e]; exact h c (List.mem_cons_self ..)
      · exact h'.1 x e
    · rw [jE_n w, jR_n w]
      exact ⟨fun x hx => absurd hx List.not_mem_nil, h⟩
theorem mem_app {P : IN → Prop} {A B : List IN} (ha : ∀ x ∈ A, P x) (hb : ∀ x ∈ B, P x) : ∀ x ∈ A ++ B, P x := by
  intro x hx
  rcases List.mem_append.mp hx with h | h
  · exact ha x h
  · exact hb x h
theorem cm_pos {T : Nat → Int} {n : Nat} (hT : TXT T n) : ∀ (k m o : Nat) (L : List Int) (p : Nat), m ≤ 3 → (∀ c ∈ L, 0 ≤ c) → ∀ x ∈ cm T k m o L p, 0 ≤ x.1 := by
  intro k
  induction k with
  | zero => intro m o L p _ _ x hx; cases hx
  | succ k ih =>
    intro m o L p hm hL
    rcases (show m = 0 ∨ m = 1 ∨ m = 2 ∨ m = 3 by omega) with rfl | rfl | rfl | rfl
    · rw [cm_0]
      split
      · exact ih 1 (o + 1) [] (p + 1) (by omega) (fun c hc => by cases hc)
      · split
        · intro x hx
          rw [List.mem_singleton.mp hx]; show (0 : Int) ≤ 0; omega
        · intro x hx
          rw [List.mem_singleton.mp hx]; show (0 : Int) ≤ 1; omega
    · rw [cm_1]
      refine mem_app (ih 0 o [] p (by omega) (fun c hc => by cases hc)) ?_
      split
      · have F := fE_pos (p := opS (T (sp T k 0 o p).2)) L hL
        refine mem_app F.1 (ih 1 o _ _ (by omega) (fun c hc => ?_))
        rcases List.mem_cons.mp hc with e | e
        · rw [e]; exact (hT.2.1 _).1
        · exact F.2 c e
      · exact em_pos L hL
    · rw [cm_2]
      split
      · refine mem_app (ih 2 (o + 1) [] (p + 1) (by omega) (fun c hc => by cases hc)) (fun x hx => ?_)
        rw [List.mem_singleton.mp hx]; show (0 : Int) ≤ 2; omega
      · split
        · exact ih 3 (o + 1) [] (p + 1) (by omega) (fun c hc => by cases hc)
        · refine mem_app (ih 1 o [] p (by omega) (fun c hc => by cases hc)) (mem_app (ih 1 o [] _ (by omega) (fun c hc => by cases hc)) (fun x hx => ?_))
          rw [List.mem_singleton.mp hx]; exact (hT.2.1 _).1
    · rw [cm_3]
      refine mem_app (ih 2 o [] p (by omega) (fun c hc => by cases hc)) ?_
      split
      · have F := jE_pos (p := opO (T (sp T k 2 o p).2)) L hL
        refine mem_app F.1 (ih 3 o _ _ (by omega) (fun c hc => ?_))
        rcases List.mem_cons.mp hc with e | e
        · rw [e]; exact (hT.2.1 _).1
        · exact F.2 c e
      · exact em_pos L hL
