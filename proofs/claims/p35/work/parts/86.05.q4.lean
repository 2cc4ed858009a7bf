/-! the reference's stack -/
def SK (a : Nat → Int32) : List Int → Prop
  | [] => True
  | c :: S => (a S.length).toInt = c ∧ SK a S
theorem SK_up {a : Nat → Int32} {x : Int32} : ∀ {S : List Int} {i : Nat}, S.length ≤ i → SK a S → SK (upd a i x) S := by
  intro S
  induction S with
  | nil => intro i _ _; trivial
  | cons c S ih =>
    intro i h hs
    have hl : S.length + 1 ≤ i := h
    refine ⟨?_, ih (by omega) hs.2⟩
    show (upd a i x S.length).toInt = c
    unfold upd
    rw [if_neg (by omega)]; exact hs.1
theorem SK_push {a : Nat → Int32} {x : Int32} {c : Int} {S : List Int} (h : SK a S) (hx : x.toInt = c) : SK (upd a S.length x) (c :: S) := by
  refine ⟨?_, SK_up (Nat.le_refl _) h⟩
  show (upd a S.length x S.length).toInt = c
  unfold upd
  rw [if_pos rfl]; exact hx
def cn : List Int → Nat
  | [] => 0
  | c :: S => (if c = 40 ∨ c = 91 ∨ c = 33 then 1 else 0) + cn S
theorem cn_y {c : Int} {S : List Int} (h : c = 40 ∨ c = 91 ∨ c = 33) : cn (c :: S) = cn S + 1 := by
  show (if c = 40 ∨ c = 91 ∨ c = 33 then 1 else 0) + cn S = _
  rw [if_pos h]; omega
theorem cn_n {c : Int} {S : List Int} (h : ¬ (c = 40 ∨ c = 91 ∨ c = 33)) : cn (c :: S) = cn S := by
  show (if c = 40 ∨ c = 91 ∨ c = 33 then 1 else 0) + cn S = _
  rw [if_neg h]; omega
def AO (L : List Int) : Prop := ∀ c, c ∈ L → c = 42 ∨ c = 47 ∨ c = 37 ∨ c = 43 ∨ c = 45
def AJ (L : List Int) : Prop := ∀ c, c ∈ L → c = 38 ∨ c = 124
theorem AO_t {c : Int} {L : List Int} (h : AO (c :: L)) : AO L := fun x hx => h x (List.mem_cons_of_mem _ hx)
theorem AJ_t {c : Int} {L : List Int} (h : AJ (c :: L)) : AJ L := fun x hx => h x (List.mem_cons_of_mem _ hx)
theorem AO_c {c : Int} {L : List Int} (hc : c = 42 ∨ c = 47 ∨ c = 37 ∨ c = 43 ∨ c = 45) (h : AO L) : AO (c :: L) := by
  intro x hx
  rcases List.mem_cons.mp hx with h2 | h2
  · rw [h2]; exact hc
  · exact h x h2
theorem AJ_c {c : Int} {L : List Int} (hc : c = 38 ∨ c = 124) (h : AJ L) : AJ (c :: L) := by
  intro x hx
  rcases List.mem_cons.mp hx with h2 | h2
  · rw [h2]; exact hc
  · exact h x h2
theorem AO_n : AO [] := fun _ h => by cases h
theorem AJ_n : AJ [] := fun _ h => by cases h
theorem cn_ao {S : List Int} : ∀ {L : List Int}, AO L → cn (L ++ S) = cn S := by
  intro L
  induction L with
  | nil => intro _; rfl
  | cons c L ih =>
    intro h
    have hc := h c (List.mem_cons_self ..)
    show cn (c :: (L ++ S)) = cn S
    rw [cn_n (by omega), ih (AO_t h)]
theorem cn_aj {S : List Int} : ∀ {L : List Int}, AJ L → cn (L ++ S) = cn S := by
  intro L
  induction L with
  | nil => intro _; rfl
  | cons c L ih =>
    intro h
    have hc := h c (List.mem_cons_self ..)
    show cn (c :: (L ++ S)) = cn S
    rw [cn_n (by omega), ih (AJ_t h)]
theorem tp_c {i15 : Int32} {a : Nat → Int32} {c : Int} {S : List Int} (hd : i15.toInt = ((S.length + 1 : Nat) : Int)) (hs : SK a (c :: S)) (hl : S.length ≤ 1000) : (F_m12_top i15 a).toInt = c := by
  unfold F_m12_top
  rw [if_neg (by omega)]
  show (a (i15 - (1 : Int32)).toNatClampNeg).toInt = c
  have e := toInt_sub hd c1 (by omega) (by omega)
  rw [nc (p := S.length) (by omega)]; exact hs.1
theorem tp_0 {i15 : Int32} {a : Nat → Int32} (hd : i15.toInt = 0) : (F_m12_top i15 a).toInt = 0 := by
  unfold F_m12_top
  rw [if_pos (by omega)]; exact c0
theorem tim {v : Int32} : ((v.toInt = 42 ∨ v.toInt = 47 ∨ v.toInt = 37) ∧ F_m12_isTimes v = 1) ∨ (¬ (v.toInt = 42 ∨ v.toInt = 47 ∨ v.toInt = 37) ∧ F_m12_isTimes v = 0) := by
  have e : F_m12_isTimes v = if v.toInt = 42 then (1 : Int32) else if v.toInt = 47 then (1 : Int32) else if v.toInt ≠ 37 then (0 : Int32) else (1 : Int32) := rfl
  rw [e]
  by_cases h1 : v.toInt = 42
  · left; rw [if_pos h1]; exact ⟨Or.inl h1, rfl⟩
  · rw [if_neg h1]
    by_cases h2 : v.toInt = 47
    · left; rw [if_pos h2]; exact ⟨Or.inr (Or.inl h2), rfl⟩
    · rw [if_neg h2]
      by_cases h3 : v.toInt = 37
      · left; rw [if_neg (by omega)]; exact ⟨Or.inr (Or.inr h3), rfl⟩
      · right; rw [if_pos h3]; exact ⟨by omega, rfl⟩
theorem plu {v : Int32} : ((v.toInt = 43 ∨ v.toInt = 45) ∧ F_m12_isPlus v = 1) ∨ (¬ (v.toInt = 43 ∨ v.toInt = 45) ∧ F_m12_isPlus v = 0) := by
  have e : F_m12_isPlus v = if v.toInt = 43 then (1 : Int32) else if v.toInt ≠ 45 then (0 : Int32) else (1 : Int32) := rfl
  rw [e]
  by_cases h1 : v.toInt = 43
  · left; rw [if_pos h1]; exact ⟨Or.inl h1, rfl⟩
  · rw [if_neg h1]
    by_cases h3 : v.toInt = 45
    · left; rw [if_neg (by omega)]; exact ⟨Or.inr h3, rfl⟩
    · right; rw [if_pos h3]; exact ⟨by omega, rfl⟩
theorem sig {v : Int32} : ((v.toInt = 60 ∨ v.toInt = 62 ∨ v.toInt = 61) ∧ F_m12_isSign v = 1) ∨ (¬ (v.toInt = 60 ∨ v.toInt = 62 ∨ v.toInt = 61) ∧ F_m12_isSign v = 0) := by
  have e : F_m12_isSign v = if v.toInt = 60 then (1 : Int32) else if v.toInt = 62 then (1 : Int32) else if v.toInt ≠ 61 then (0 : Int32) else (1 : Int32) := rfl
  rw [e]
  by_cases h1 : v.toInt = 60
  · left; rw [if_pos h1]; exact ⟨Or.inl h1, rfl⟩
  · rw [if_neg h1]
    by_cases h2 : v.toInt = 62
    · left; rw [if_pos h2]; exact ⟨Or.inr (Or.inl h2), rfl⟩
    · rw [if_neg h2]
      by_cases h3 : v.toInt = 61
      · left; rw [if_neg (by omega)]; exact ⟨Or.inr (Or.inr h3), rfl⟩
      · right; rw [if_pos h3]; exact ⟨by omega, rfl⟩
theorem val {v : Int32} : ((v.toInt = 98 ∨ v.toInt = 99 ∨ v.toInt = 100 ∨ v.toInt = 109 ∨ v.toInt = 110 ∨ v.toInt = 118) ∧ F_m12_isValue v = 1) ∨ (¬ (v.toInt = 98 ∨ v.toInt = 99 ∨ v.toInt = 100 ∨ v.toInt = 109 ∨ v.toInt = 110 ∨ v.toInt = 118) ∧ F_m12_isValue v = 0) := by
  have e : F_m12_isValue v = if v.toInt = 118 then (1 : Int32) else if v.toInt = 98 then (1 : Int32) else if v.toInt = 109 then (1 : Int32) else if v.toInt = 110 then (1 : Int32) else if v.toInt = 99 then (1 : Int32) else if v.toInt ≠ 100 then (0 : Int32) else (1 : Int32) := rfl
  rw [e]
  by_cases h : v.toInt = 98 ∨ v.toInt = 99 ∨ v.toInt = 100 ∨ v.toInt = 109 ∨ v.toInt = 110 ∨ v.toInt = 118
  · left
    refine ⟨h, ?_⟩
    by_cases h1 : v.toInt = 118
    · rw [if_pos h1]
    · rw [if_neg h1]
      by_cases h2 : v.toInt = 98
      · rw [if_pos h2]
      · rw [if_neg h2]
        by_cases h3 : v.toInt = 109
        · rw [if_pos h3]
        · rw [if_neg h3]
          by_cases h4 : v.toInt = 110
          · rw [if_pos h4]
          · rw [if_neg h4]
            by_cases h5 : v.toInt = 99
            · rw [if_pos h5]
            · rw [if_neg h5, if_neg (by omega)]
  · right
    exact ⟨h, by rw [if_neg (by omega), if_neg (by omega), if_neg (by omega), if_neg (by omega), if_neg (by omega), if_pos (by omega)]⟩
def nop (h : Int) : Prop := ¬ (h = 42 ∨ h = 47 ∨ h = 37 ∨ h = 43 ∨ h = 45)
theorem len_app {L : List Int} {h : Int} {S : List Int} : (L ++ h :: S).length = L.length + S.length + 1 := by
  rw [List.length_append, List.length_cons]; omega
theorem pred_of {x : Int32} {k : Nat} (h : x.toInt = ((k + 1 : Nat) : Int)) (hk : k < 100000) : (x - 1).toInt = (k : Int) := by
  have := toInt_sub h c1 (by omega) (by omega)
  omega
/-- pops: what stands above is gone, as far as it was asked -/
theorem sums_loop {p0 : Int32} {a : Nat → Int32} {h : Int} {S : List Int} (hn : nop h) : ∀ (L : List Int) (f : Nat) (d : Int32), AO L → L.length < f → (L ++ h :: S).length ≤ 1000 → d.toInt = ((L ++ h :: S).length : Int) → SK a (L ++ h :: S) →
    ∃ L', AO L' ∧ L'.length ≤ L.length ∧ (f_m12_sums_j35 p0 a f d).toInt = ((L' ++ h :: S).length : Int) ∧ SK a (L' ++ h :: S) ∧ (p0.toInt ≠ 0 → L' = []) := by
  intro L
  induction L with
  | nil =>
    intro f d _ hf hl hd hs
    obtain ⟨f, rfl⟩ : ∃ w, f = w + 1 := ⟨f - 1, by omega⟩
    have hl' : S.length + 1 ≤ 1000 := hl
    have hd' : d.toInt = ((S.length + 1 : Nat) : Int) := hd
    have ht := tp_c hd' hs (by omega)
    have hno : ¬ (h = 42 ∨ h = 47 ∨ h = 37 ∨ h = 43 ∨ h = 45) := hn
    refine ⟨[], AO_n, Nat.le_refl _, ?_, hs, fun _ => rfl⟩
    show (if (F_m12_isTimes (F_m12_top d a)).toInt ≠ 0 then f_m12_sums_b_67 d (f_m12_sums_j35 p0 a f) else if p0.toInt = 0 then d else if (F_m12_isPlus (F_m12_top d a)).toInt = 0 then d else f_m12_sums_b_103 d (f_m12_sums_j35 p0 a f)).toInt = _
    rcases tim (v := F_m12_top d a) with ⟨q, e⟩ | ⟨q, e⟩
    · omega
    · rw [e, if_neg n00]
      by_cases w : p0.toInt = 0
      · rw [if_pos w]; exact hd
      · rw [if_neg w]
        rcases plu (v := F_m12_top d a) with ⟨q, e⟩ | ⟨q, e⟩
        · omega
        · rw [e, if_pos y00]; exact hd
  | cons c L ih =>
    intro f d ho hf hl hd hs
    obtain ⟨f, rfl⟩ : ∃ w, f = w + 1 := ⟨f - 1, by omega⟩
    have hf' : L.length + 1 < f + 1 := hf
    have hl' : (L ++ h :: S).length + 1 ≤ 1000 := hl
    have hd' : d.toInt = (((L ++ h :: S).length + 1 : Nat) : Int) := hd
    have hs' : SK a (c :: (L ++ h :: S)) := hs
    have ht := tp_c hd' hs' (by omega)
    have hc := ho c (List.mem_cons_self ..)
    have hp := pred_of hd' (by omega)
    obtain ⟨L', g1, g2, g3, g4, g5⟩ := ih f (d - 1) (AO_t ho) (by omega) (by omega) hp hs'.2
    have e0 : f_m12_sums_j35 p0 a (f + 1) d = if (F_m12_isTimes (F_m12_top d a)).toInt ≠ 0 then f_m12_sums_j35 p0 a f (d - 1) else if p0.toInt = 0 then d else if (F_m12_isPlus (F_m12_top d a)).toInt = 0 then d else f_m12_sums_j35 p0 a f (d - 1) := rfl
    rw [e0]
    rcases tim (v := F_m12_top d a) with ⟨q, e⟩ | ⟨q, e⟩
    · rw [e, if_pos y10]
      exact ⟨L', g1, by show L'.length ≤ L.length + 1; omega, g3, g4, g5⟩
    · rw [e, if_neg n00]
      by_cases w : p0.toInt = 0
      · rw [if_pos w]
        exact ⟨c :: L, ho, Nat.le_refl _, hd, hs, fun z => absurd w z⟩
      · rw [if_neg w]
        rcases plu (v := F_m12_top d a) with ⟨q2, e2⟩ | ⟨q2, e2⟩
        · rw [e2, if_neg n10]
          exact ⟨L', g1, by show L'.length ≤ L.length + 1; omega, g3, g4, g5⟩
        · omega
theorem sums_loop2 {a : Nat → Int32} {h : Int} {S : List Int} (hn : nop h) : ∀ (L : List Int) (f : Nat) (d : Int32), AO L → L.length < f → (L ++ h :: S).length ≤ 1000 → d.toInt = ((L ++ h :: S).length : Int) → SK a (L ++ h :: S) →
    (f_m12_sums_j160 a f d).toInt = ((h :: S).length : Int) ∧ SK a (h :: S) := by
  intro L
  induction L with
  | nil =>
    intro f d _ hf hl hd hs
    obtain ⟨f, rfl⟩ : ∃ w, f = w + 1 := ⟨f - 1, by omega⟩
    have hl' : S.length + 1 ≤ 1000 := hl
    have hd' : d.toInt = ((S.length + 1 : Nat) : Int) := hd
    have ht := tp_c hd' hs (by omega)
    have hno : ¬ (h = 42 ∨ h = 47 ∨ h = 37 ∨ h = 43 ∨ h = 45) := hn
    refine ⟨?_, hs⟩
    show (if (F_m12_isTimes (F_m12_top d a)).toInt ≠ 0 then f_m12_sums_b_192 d (f_m12_sums_j160 a f) else if (F_m12_isPlus (F_m12_top d a)).toInt = 0 then d else f_m12_sums_b_227 d (f_m12_sums_j160 a f)).toInt = _
    rcases tim (v := F_m12_top d a) with ⟨q, e⟩ | ⟨q, e⟩
    · omega
    · rw [e, if_neg n00]
      rcases plu (v := F_m12_top d a) with ⟨q, e⟩ | ⟨q, e⟩
      · omega
      · rw [e, if_pos y00]; exact hd
  | cons c L ih =>
    intro f d ho hf hl hd hs
    obtain ⟨f, rfl⟩ : ∃ w, f = w + 1 := ⟨f - 1, by omega⟩
    have hf' : L.length + 1 < f + 1 := hf
    have hl' : (L ++ h :: S).length + 1 ≤ 1000 := hl
    have hd' : d.toInt = (((L ++ h :: S).length + 1 : Nat) : Int) := hd
    have hs' : SK a (c :: (L ++ h :: S)) := hs
    have ht := tp_c hd' hs' (by omega)
    have hc := ho c (List.mem_cons_self ..)
    have hp := pred_of hd' (by omega)
    have g := ih f (d - 1) (AO_t ho) (by omega) (by omega) hp hs'.2
    have e0 : f_m12_sums_j160 a (f + 1) d = if (F_m12_isTimes (F_m12_top d a)).toInt ≠ 0 then f_m12_sums_j160 a f (d - 1) else if (F_m12_isPlus (F_m12_top d a)).toInt = 0 then d else f_m12_sums_j160 a f (d - 1) := rfl
    rw [e0]
    rcases tim (v := F_m12_top d a) with ⟨q, e⟩ | ⟨q, e⟩
    · rw [e, if_pos y10]; exact g
    · rw [e, if_neg n00]
      rcases plu (v := F_m12_top d a) with ⟨q2, e2⟩ | ⟨q2, e2⟩
      · rw [e2, if_neg n10]; exact g
      · omega
theorem sums_of {p0 d : Int32} {a : Nat → Int32} {h : Int} {S L : List Int} (hn : nop h) (ho : AO L) (hl : (L ++ h :: S).length ≤ 160) (hd : d.toInt = ((L ++ h :: S).length : Int)) (hs : SK a (L ++ h :: S)) :
    ∃ L', AO L' ∧ L'.length ≤ L.length ∧ (F_m12_sums p0 d a).toInt = ((L' ++ h :: S).length : Int) ∧ SK a (L' ++ h :: S) ∧ (p0.toInt ≠ 0 → L' = []) := by
  have e0 : F_m12_sums p0 d a = if (F_m12_isTimes (F_m12_top d a)).toInt ≠ 0 then f_m12_sums_j35 p0 a 160 (d - 1) else if p0.toInt = 0 then d else if (F_m12_isPlus (F_m12_top d a)).toInt = 0 then d else f_m12_sums_j160 a 160 (d - 1) := rfl
  rw [e0]
  have hno : ¬ (h = 42 ∨ h = 47 ∨ h = 37 ∨ h = 43 ∨ h = 45) := hn
  cases L with
  | nil =>
    have hl' : S.length + 1 ≤ 160 := hl
    have hd' : d.toInt = ((S.length + 1 : Nat) : Int) := hd
    have ht := tp_c hd' hs (by omega)
    refine ⟨[], AO_n, Nat.le_refl _, ?_, hs, fun _ => rfl⟩
    rcases tim (v := F_m12_top d a) with ⟨q, e⟩ | ⟨q, e⟩
    · omega
    · rw [e, if_neg n00]
      by_cases w : p0.toInt = 0
      · rw [if_pos w]; exact hd
      · rw [if_neg w]
        rcases plu (v := F_m12_top d a) with ⟨q, e⟩ | ⟨q, e⟩
        · omega
        · rw [e, if_pos y00]; exact hd
  | cons c L =>
    have hl' : (L ++ h :: S).length + 1 ≤ 160 := hl
    have hd' : d.toInt = (((L ++ h :: S).length + 1 : Nat) : Int) := hd
    have hs' : SK a (c :: (L ++ h :: S)) := hs
    have ht := tp_c hd' hs' (by omega)
    have hc := ho c (List.mem_cons_self ..)
    have hp := pred_of hd' (by omega)
    have hla := len_app (L := L) (h := h) (S := S)
    rcases tim (v := F_m12_top d a) with ⟨q, e⟩ | ⟨q, e⟩
    · rw [e, if_pos y10]
      obtain ⟨L', g1, g2, g3, g4, g5⟩ := sums_loop (p0 := p0) hn L 160 (d - 1) (AO_t ho) (by omega) (by omega) hp hs'.2
      exact ⟨L', g1, by show L'.length ≤ L.length + 1; omega, g3, g4, g5⟩
    · rw [e, if_neg n00]
      by_cases w : p0.toInt = 0
      · rw [if_pos w]
        exact ⟨c :: L, ho, Nat.le_refl _, hd, hs, fun z => absurd w z⟩
      · rw [if_neg w]
        rcases plu (v := F_m12_top d a) with ⟨q2, e2⟩ | ⟨q2, e2⟩
        · rw [e2, if_neg n10]
          have g := sums_loop2 hn L 160 (d - 1) (AO_t ho) (by omega) (by omega) hp hs'.2
          exact ⟨[], AO_n, Nat.zero_le _, g.1, g.2, fun _ => rfl⟩
        · omega
theorem joins_loop {p0 : Int32} {a : Nat → Int32} {S : List Int} : ∀ (L : List Int) (f : Nat) (d : Int32), AJ L → L.length < f → (L ++ 40 :: S).length ≤ 1000 → d.toInt = ((L ++ 40 :: S).length : Int) → SK a (L ++ 40 :: S) →
    ∃ L', AJ L' ∧ L'.length ≤ L.length ∧ (f_m12_joins_j32 p0 a f d).toInt = ((L' ++ 40 :: S).length : Int) ∧ SK a (L' ++ 40 :: S) ∧ (p0.toInt ≠ 0 → L' = []) := by
  intro L
  induction L with
  | nil =>
    intro f d _ hf hl hd hs
    obtain ⟨f, rfl⟩ : ∃ w, f = w + 1 := ⟨f - 1, by omega⟩
    have hl' : S.length + 1 ≤ 1000 := hl
    have hd' : d.toInt = ((S.length + 1 : Nat) : Int) := hd
    have ht := tp_c hd' hs (by omega)
    refine ⟨[], AJ_n, Nat.le_refl _, ?_, hs, fun _ => rfl⟩
    show (if (F_m12_top d a).toInt = 38 then f_m12_joins_b_60 d (f_m12_joins_j32 p0 a f) else if p0.toInt = 0 then d else if (F_m12_top d a).toInt ≠ 124 then d else f_m12_joins_b_93 d (f_m12_joins_j32 p0 a f)).toInt = _
    rw [if_neg (by omega)]
    by_cases w : p0.toInt = 0
    · rw [if_pos w]; exact hd
    · rw [if_neg w, if_pos (by omega)]; exact hd
  | cons c L ih =>
    intro f d ho hf hl hd hs
    obtain ⟨f, rfl⟩ : ∃ w, f = w + 1 := ⟨f - 1, by omega⟩
    have hf' : L.length + 1 < f + 1 := hf
    have hl' : (L ++ 40 :: S).length + 1 ≤ 1000 := hl
    have hd' : d.toInt = (((L ++ 40 :: S).length + 1 : Nat) : Int) := hd
    have hs' : SK a (c :: (L ++ 40 :: S)) := hs
    have ht := tp_c hd' hs' (by omega)
    have hc := ho c (List.mem_cons_self ..)
    have hp := pred_of hd' (by omega)
    obtain ⟨L', g1, g2, g3, g4, g5⟩ := ih f (d - 1) (AJ_t ho) (by omega) (by omega) hp hs'.2
    have e0 : f_m12_joins_j32 p0 a (f + 1) d = if (F_m12_top d a).toInt = 38 then f_m12_joins_j32 p0 a f (d - 1) else if p0.toInt = 0 then d else if (F_m12_top d a).toInt ≠ 124 then d else f_m12_joins_j32 p0 a f (d - 1) := rfl
    rw [e0]
    by_cases q : (F_m12_top d a).toInt = 38
    · rw [if_pos q]
      exact ⟨L', g1, by show L'.length ≤ L.length + 1; omega, g3, g4, g5⟩
    · rw [if_neg q]
      by_cases w : p0.toInt = 0
      · rw [if_pos w]
        exact ⟨c :: L, ho, Nat.le_refl _, hd, hs, fun z => absurd w z⟩
      · rw [if_neg w, if_neg (by omega)]
        exact ⟨L', g1, by show L'.length ≤ L.length + 1; omega, g3, g4, g5⟩
theorem joins_loop2 {a : Nat → Int32} {S : List Int} : ∀ (L : List Int) (f : Nat) (d : Int32), AJ L → L.length < f → (L ++ 40 :: S).length ≤ 1000 → d.toInt = ((L ++ 40 :: S).length : Int) → SK a (L ++ 40 :: S) →
    (f_m12_joins_j148 a f d).toInt = (((40 : Int) :: S).length : Int) ∧ SK a (40 :: S) := by
  intro L
  induction L with
  | nil =>
    intro f d _ hf hl hd hs
    obtain ⟨f, rfl⟩ : ∃ w, f = w + 1 := ⟨f - 1, by omega⟩
    have hl' : S.length + 1 ≤ 1000 := hl
    have hd' : d.toInt = ((S.length + 1 : Nat) : Int) := hd
    have ht := tp_c hd' hs (by omega)
    refine ⟨?_, hs⟩
    show (if (F_m12_top d a).toInt = 38 then f_m12_joins_b_176 d (f_m12_joins_j148 a f) else if (F_m12_top d a).toInt ≠ 124 then d else f_m12_joins_b_208 d (f_m12_joins_j148 a f)).toInt = _
    rw [if_neg (by omega), if_pos (by omega)]; exact hd
  | cons c L ih =>
    intro f d ho hf hl hd hs
    obtain ⟨f, rfl⟩ : ∃ w, f = w + 1 := ⟨f - 1, by omega⟩
    have hf' : L.length + 1 < f + 1 := hf
    have hl' : (L ++ 40 :: S).length + 1 ≤ 1000 := hl
    have hd' : d.toInt = (((L ++ 40 :: S).length + 1 : Nat) : Int) := hd
    have hs' : SK a (c :: (L ++ 40 :: S)) := hs
    have ht := tp_c hd' hs' (by omega)
    have hc := ho c (List.mem_cons_self ..)
    have hp := pred_of hd' (by omega)
    have g := ih f (d - 1) (AJ_t ho) (by omega) (by omega) hp hs'.2
    have e0 : f_m12_joins_j148 a (f + 1) d = if (F_m12_top d a).toInt = 38 then f_m12_joins_j148 a f (d - 1) else if (F_m12_top d a).toInt ≠ 124 then d else f_m12_joins_j148 a f (d - 1) := rfl
    rw [e0]
    by_cases q : (F_m12_top d a).toInt = 38
    · rw [if_pos q]; exact g
    · rw [if_neg q, if_neg (by omega)]; exact g
theorem joins_of {p0 d : Int32} {a : Nat → Int32} {S L : List Int} (ho : AJ L) (hl : (L ++ 40 :: S).length ≤ 160) (hd : d.toInt = ((L ++ 40 :: S).length : Int)) (hs : SK a (L ++ 40 :: S)) :
    ∃ L', AJ L' ∧ L'.length ≤ L.length ∧ (F_m12_joins p0 d a).toInt = ((L' ++ 40 :: S).length : Int) ∧ SK a (L' ++ 40 :: S) ∧ (p0.toInt ≠ 0 → L' = []) := by
  have e0 : F_m12_joins p0 d a = if (F_m12_top d a).toInt = 38 then f_m12_joins_j32 p0 a 160 (d - 1) else if p0.toInt = 0 then d else if (F_m12_top d a).toInt ≠ 124 then d else f_m12_joins_j148 a 160 (d - 1) := rfl
  rw [e0]
  cases L with
  | nil =>
    have hl' : S.length + 1 ≤ 160 := hl
    have hd' : d.toInt = ((S.length + 1 : Nat) : Int) := hd
    have ht := tp_c hd' hs (by omega)
    refine ⟨[], AJ_n, Nat.le_refl _, ?_, hs, fun _ => rfl⟩
    rw [if_neg (by omega)]
    by_cases w : p0.toInt = 0
    · rw [if_pos w]; exact hd
    · rw [if_neg w, if_pos (by omega)]; exact hd
  | cons c L =>
    have hl' : (L ++ 40 :: S).length + 1 ≤ 160 := hl
    have hd' : d.toInt = (((L ++ 40 :: S).length + 1 : Nat) : Int) := hd
    have hs' : SK a (c :: (L ++ 40 :: S)) := hs
    have ht := tp_c hd' hs' (by omega)
    have hc := ho c (List.mem_cons_self ..)
    have hp := pred_of hd' (by omega)
    have hla := len_app (L := L) (h := 40) (S := S)
    by_cases q : (F_m12_top d a).toInt = 38
    · rw [if_pos q]
      obtain ⟨L', g1, g2, g3, g4, g5⟩ := joins_loop (p0 := p0) L 160 (d - 1) (AJ_t ho) (by omega) (by omega) hp hs'.2
      exact ⟨L', g1, by show L'.length ≤ L.length + 1; omega, g3, g4, g5⟩
    · rw [if_neg q]
      by_cases w : p0.toInt = 0
      · rw [if_pos w]
        exact ⟨c :: L, ho, Nat.le_refl _, hd, hs, fun z => absurd w z⟩
      · rw [if_neg w, if_neg (by omega)]
        have g := joins_loop2 L 160 (d - 1) (AJ_t ho) (by omega) (by omega) hp hs'.2
        exact ⟨[], AJ_n, Nat.zero_le _, g.1, g.2, fun _ => rfl⟩
def dB : List Int → List Int
  | [] => []
  | c :: S => if c = 33 then dB S else c :: S
theorem dB_n {c : Int} {S : List Int} (h : c ≠ 33) : dB (c :: S) = c :: S := by
  show (if c = 33 then dB S else c :: S) = _
  rw [if_neg h]
theorem dB_y {S : List Int} : dB (33 :: S) = dB S := by
  show (if (33 : Int) = 33 then dB S else 33 :: S) = _
  rw [if_pos rfl]
theorem dB_l : ∀ (S : List Int), (dB S).length ≤ S.length := by
  intro S
  induction S with
  | nil => exact Nat.le_refl _
  | cons c S ih =>
    by_cases h : c = 33
    · subst h; rw [dB_y]; exact Nat.le_succ_of_le ih
    · rw [dB_n h]; exact Nat.le_refl _
theorem cn_l : ∀ (S : List Int), cn S ≤ S.length := by
  intro S
  induction S with
  | nil => exact Nat.le_refl _
  | cons c S ih =>
    show (if c = 40 ∨ c = 91 ∨ c = 33 then 1 else 0) + cn S ≤ S.length + 1
    split <;> omega
theorem ends_loop {a : Nat → Int32} : ∀ (S : List Int) (f : Nat) (d o : Int32), S.length < f → S.length ≤ 1000 → d.toInt = (S.length : Int) → o.toInt = (cn S : Int) → SK a S →
    (f_m12_ends_j28 a f o d).1.toInt = (cn (dB S) : Int) ∧ (f_m12_ends_j28 a f o d).2.toInt = ((dB S).length : Int) ∧ SK a (dB S) := by
  intro S
  induction S with
  | nil =>
    intro f d o hf hl hd ho hs
    obtain ⟨f, rfl⟩ : ∃ w, f = w + 1 := ⟨f - 1, by omega⟩
    have ht := tp_0 (a := a) (i15 := d) (by rw [hd]; rfl)
    have e0 : f_m12_ends_j28 a (f + 1) o d = if (F_m12_top d a).toInt ≠ 33 then (o, d) else f_m12_ends_j28 a f (o - 1) (d - 1) := rfl
    rw [e0, if_pos (by omega)]
    exact ⟨ho, hd, hs⟩
  | cons c S ih =>
    intro f d o hf hl hd ho hs
    obtain ⟨f, rfl⟩ : ∃ w, f = w + 1 := ⟨f - 1, by omega⟩
    have hf' : S.length + 1 < f + 1 := hf
    have hl' : S.length + 1 ≤ 1000 := hl
    have hd' : d.toInt = ((S.length + 1 : Nat) : Int) := hd
    have ht := tp_c hd' hs (by omega)
    have e0 : f_m12_ends_j28 a (f + 1) o d = if (F_m12_top d a).toInt ≠ 33 then (o, d) else f_m12_ends_j28 a f (o - 1) (d - 1) := rfl
    rw [e0]
    by_cases h : c = 33
    · subst h
      rw [if_neg (by omega), dB_y]
      have hcl := cn_l S
      rw [cn_y (by omega)] at ho
      exact ih f (d - 1) (o - 1) (by omega) (by omega) (pred_of hd' (by omega)) (pred_of ho (by omega)) hs.2
    · rw [if_pos (by omega), dB_n h]
      exact ⟨ho, hd, hs⟩
theorem ends_of {a : Nat → Int32} {S : List Int} {d o : Int32} (hl : S.length ≤ 160) (hd : d.toInt = (S.length : Int)) (ho : o.toInt = (cn S : Int)) (hs : SK a S) :
    (F_m12_ends o d a).1.toInt = (cn (dB S) : Int) ∧ (F_m12_ends o d a).2.toInt = ((dB S).length : Int) ∧ SK a (dB S) := by
  have e0 : F_m12_ends o d a = if (F_m12_top d a).toInt ≠ 33 then (o, d) else f_m12_ends_j28 a 160 (o - 1) (d - 1) := rfl
  rw [e0]
  cases S with
  | nil =>
    have ht := tp_0 (a := a) (i15 := d) (by rw [hd]; rfl)
    rw [if_pos (by omega)]
    exact ⟨ho, hd, hs⟩
  | cons c S =>
    have hl' : S.length + 1 ≤ 160 := hl
    have hd' : d.toInt = ((S.length + 1 : Nat) : Int) := hd
    have ht := tp_c hd' hs (by omega)
    by_cases h : c = 33
    · subst h
      rw [if_neg (by omega), dB_y]
      have hcl := cn_l S
      rw [cn_y (by omega)] at ho
      exact ends_loop S 160 (d - 1) (o - 1) (by omega) (by omega) (pred_of hd' (by omega)) (pred_of ho (by omega)) hs.2
    · rw [if_pos (by omega), dB_n h]
      exact ⟨ho, hd, hs⟩
