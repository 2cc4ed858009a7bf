/-! TURNED by like rows of WORDS -/
def twl (trn wrd : Nat → Int32) (t : Int) : Nat → Nat → List Int
  | 0, _ => []
  | m + 1, X => if (trn X).toInt = t then (wrd X).toInt :: twl trn wrd t m (X + 1) else twl trn wrd t m (X + 1)
section TWL
variable {trn wrd : Nat → Int32} {t : Int} {m X : Nat}
theorem twl_y (h : (trn X).toInt = t) : twl trn wrd t (m + 1) X = (wrd X).toInt :: twl trn wrd t m (X + 1) := by show (if _ then _ else _) = _; rw [if_pos h]
theorem twl_n (h : ¬ (trn X).toInt = t) : twl trn wrd t (m + 1) X = twl trn wrd t m (X + 1) := by show (if _ then _ else _) = _; rw [if_neg h]
theorem twl_eq {trn' wrd' : Nat → Int32} : ∀ (m X : Nat), (∀ k, X ≤ k → k < X + m → trn k = trn' k ∧ wrd k = wrd' k) → twl trn wrd t m X = twl trn' wrd' t m X := by
  intro m
  induction m with
  | zero => intro X _; rfl
  | succ m ih =>
    intro X h
    obtain ⟨h1, h2⟩ := h X (Nat.le_refl _) (by omega)
    have h3 := ih (X + 1) (fun k k1 k2 => h k (by omega) (by omega))
    show (if (trn X).toInt = t then (wrd X).toInt :: twl trn wrd t m (X + 1) else twl trn wrd t m (X + 1)) = (if (trn' X).toInt = t then (wrd' X).toInt :: twl trn' wrd' t m (X + 1) else twl trn' wrd' t m (X + 1))
    rw [h1, h2, h3]
theorem twl_len : ∀ (m X : Nat), (twl trn wrd t m X).length ≤ m := by
  intro m
  induction m with
  | zero => intro X; exact Nat.le_refl _
  | succ m ih =>
    intro X
    have := ih (X + 1)
    by_cases w : (trn X).toInt = t
    · rw [twl_y w]; show (twl trn wrd t m (X + 1)).length + 1 ≤ m + 1; omega
    · rw [twl_n w]; omega
theorem twl_pos : ∀ (m X : Nat), (∀ k, X ≤ k → k < X + m → 0 ≤ (wrd k).toInt) → ∀ z, z ∈ twl trn wrd t m X → 0 ≤ z := by
  intro m
  induction m with
  | zero => intro X _ z hz; cases hz
  | succ m ih =>
    intro X h z hz
    have h1 := ih (X + 1) (fun k k1 k2 => h k (by omega) (by omega))
    by_cases w : (trn X).toInt = t
    · rw [twl_y w] at hz
      rcases List.mem_cons.mp hz with e | e
      · rw [e]; exact h X (Nat.le_refl _) (by omega)
      · exact h1 z e
    · rw [twl_n w] at hz; exact h1 z hz
end TWL
/-! the class -/
section XTL
variable {ogn : Nat → Nat → Nat} {ogc : Nat → Nat → Nat → Int32}
theorem ns_loop {u1 : Int32} {b M : Nat} (hM : ogn 4 b = M) (hM2 : M ≤ 12) : ∀ (m f X : Nat) (x2 : Int32), x2.toInt = (X : Int) → M = X + m → m < f →
    ∃ Y : Nat, (f_x7_nextSlot_j1 u1 b ogn ogc f x2).toInt = (Y : Int) ∧ Y ≤ M ∧ twl (ogc 5 b) (ogc 4 b) u1.toInt m X = twl (ogc 5 b) (ogc 4 b) u1.toInt (M - Y) Y ∧ (Y < M → (ogc 5 b Y).toInt = u1.toInt) := by
  have eM : (Int32.ofNat (ogn 4 b)).toInt = (M : Int) := by rw [hM]; exact nI_toInt (by omega)
  intro m
  induction m with
  | zero =>
    intro f X x2 hx hm hf
    obtain ⟨f, rfl⟩ : ∃ w, f = w + 1 := ⟨f - 1, by omega⟩
    rw [S_x7_nextSlot_j1, if_pos (by omega)]
    refine ⟨X, hx, by omega, ?_, fun h => absurd h (by omega)⟩
    rw [show M - X = 0 by omega]
  | succ m ih =>
    intro f X x2 hx hm hf
    obtain ⟨f, rfl⟩ : ∃ w, f = w + 1 := ⟨f - 1, by omega⟩
    have hx1 := toInt_add hx co1 (by omega) (by omega)
    have o1 := co1
    rw [S_x7_nextSlot_j1, if_neg (by omega), nc hx]
    by_cases w : (ogc 5 b X).toInt = u1.toInt
    · rw [if_pos w]
      refine ⟨X, hx, by omega, ?_, fun _ => w⟩
      rw [show M - X = m + 1 by omega]
    · rw [if_neg w, twl_n w]
      exact ih f (X + 1) (x2 + Int32.ofInt 1) (by omega) (by omega) (by omega)
theorem ns_of {u0 u1 : Int32} {b M X : Nat} (hM : ogn 4 b = M) (hM2 : M ≤ 12) (hx : u0.toInt = (X : Int)) (hX : X ≤ M) :
    ∃ Y : Nat, (F_x7_nextSlot u0 u1 b ogn ogc).toInt = (Y : Int) ∧ Y ≤ M ∧ twl (ogc 5 b) (ogc 4 b) u1.toInt (M - X) X = twl (ogc 5 b) (ogc 4 b) u1.toInt (M - Y) Y ∧ (Y < M → (ogc 5 b Y).toInt = u1.toInt) := by
  rw [E_x7_nextSlot]
  exact ns_loop hM hM2 (M - X) 201 X u0 hx (by omega) (by omega)
theorem tl_loop {u0 u2 : Int32} {a b N M : Nat} (hN : ogn 4 a = N) (hN2 : N ≤ 12) (hM : ogn 4 b = M) (hM2 : M ≤ 12) : ∀ (m f X Y : Nat) (x7 x9 : Int32), x9.toInt = (X : Int) → N = X + m → m < f → x7.toInt = (Y : Int) → Y ≤ M → (Y < M → (ogc 5 b Y).toInt = u2.toInt) →
    f_x7_turnsLike_j6 u0 b u2 a ogn ogc f x7 x9 = if twl (ogc 5 a) (ogc 4 a) u0.toInt m X = twl (ogc 5 b) (ogc 4 b) u2.toInt (M - Y) Y then 1 else 0 := by
  have eN : (Int32.ofNat (ogn 4 a)).toInt = (N : Int) := by rw [hN]; exact nI_toInt (by omega)
  have eM : (F_x7_slots b ogn).toInt = (M : Int) := by rw [E_x7_slots, hM]; exact nI_toInt (by omega)
  have eM' : (Int32.ofNat (ogn 4 b)).toInt = (M : Int) := by rw [hM]; exact nI_toInt (by omega)
  intro m
  induction m with
  | zero =>
    intro f X Y x7 x9 hx hm hf hy hY hT
    obtain ⟨f, rfl⟩ : ∃ w, f = w + 1 := ⟨f - 1, by omega⟩
    rw [S_x7_turnsLike_j6, if_pos (by omega), eM]
    by_cases w : x7.toInt < (M : Int)
    · obtain ⟨q, hq⟩ : ∃ q, M - Y = q + 1 := ⟨M - Y - 1, by omega⟩
      rw [if_pos w, hq, twl_y (hT (by omega))]
      show (0 : Int32) = if ([] : List Int) = _ then 1 else 0
      rw [if_neg (fun z => by cases z)]
    · rw [if_neg w, show M - Y = 0 by omega]
      show (1 : Int32) = if ([] : List Int) = [] then 1 else 0
      rw [if_pos rfl]
  | succ m ih =>
    intro f X Y x7 x9 hx hm hf hy hY hT
    obtain ⟨f, rfl⟩ : ∃ w, f = w + 1 := ⟨f - 1, by omega⟩
    have hx1 := toInt_add hx co1 (by omega) (by omega)
    have o1 := co1
    rw [S_x7_turnsLike_j6, if_neg (by omega), nc hx, eM]
    by_cases w : (ogc 5 a X).toInt = u0.toInt
    · rw [if_pos w, twl_y w]
      by_cases w2 : x7.toInt ≥ (M : Int)
      · rw [if_pos w2, show M - Y = 0 by omega]
        rw [if_neg (show ¬ (ogc 4 a X).toInt :: twl (ogc 5 a) (ogc 4 a) u0.toInt m (X + 1) = twl (ogc 5 b) (ogc 4 b) u2.toInt 0 Y from fun z => List.cons_ne_nil _ _ z)]
      · obtain ⟨q, hq⟩ : ∃ q, M - Y = q + 1 := ⟨M - Y - 1, by omega⟩
        have e1 := suc_of hy (by omega)
        rw [if_neg w2, hq, twl_y (hT (by omega)), E_x7_wordAt, if_neg (show ¬ x7.toInt < 0 by omega), if_neg (show ¬ x7.toInt ≥ (Int32.ofNat (ogn 4 b)).toInt by omega), nc hy]
        by_cases w3 : (ogc 4 b Y).toInt = (ogc 4 a X).toInt
        · rw [if_pos w3]
          obtain ⟨Z, z1, z2, z3, z4⟩ := ns_of (u0 := x7 + 1) (u1 := u2) (ogn := ogn) (ogc := ogc) hM hM2 e1 (by omega)
          rw [ih f (X + 1) Z (F_x7_nextSlot (x7 + 1) u2 b ogn ogc) (x9 + Int32.ofInt 1) (by omega) (by omega) (by omega) z1 z2 z4, ← z3, show M - (Y + 1) = q by omega, w3]
          by_cases k : twl (ogc 5 a) (ogc 4 a) u0.toInt m (X + 1) = twl (ogc 5 b) (ogc 4 b) u2.toInt q (Y + 1)
          · rw [if_pos k, if_pos (by rw [k])]
          · rw [if_neg k, if_neg (fun z => k (List.cons.inj z).2)]
        · rw [if_neg w3, if_neg (fun z => w3 (List.cons.inj z).1.symm)]
    · rw [if_neg w, twl_n w]
      exact ih f (X + 1) Y x7 (x9 + Int32.ofInt 1) (by omega) (by omega) (by omega) hy hY hT
/-- TOKENS p of RENDERING a, q of b: the rows of WORDS -/
theorem tl_of {u0 u2 : Int32} {a b : Nat} (hN : ogn 4 a ≤ 12) (hM : ogn 4 b ≤ 12) : F_x7_turnsLike u0 b u2 a ogn ogc = if twl (ogc 5 a) (ogc 4 a) u0.toInt (ogn 4 a) 0 = twl (ogc 5 b) (ogc 4 b) u2.toInt (ogn 4 b) 0 then 1 else 0 := by
  obtain ⟨Z, z1, z2, z3, z4⟩ := ns_of (u0 := 0) (u1 := u2) (ogn := ogn) (ogc := ogc) (b := b) (M := ogn 4 b) (X := 0) rfl hM c0 (by omega)
  rw [E_x7_turnsLike, tl_loop (N := ogn 4 a) (M := ogn 4 b) rfl hN rfl hM (ogn 4 a) 201 0 Z _ 0 c0 (by omega) (by omega) z1 z2 z4, ← z3]
  rfl
end XTL
/-! the reference -/
theorem wi_loop {p0 t i : Int32} {r N I : Nat} {b40 b41 b42 : Nat → Int32} (hr : p0.toInt = (r : Int)) (hr2 : r < 200) (hN : (b40 r).toInt = (N : Int)) (hN2 : N ≤ 12) (hi : i.toInt = (I : Int)) (hI : I ≤ 12) : ∀ (m f X n : Nat) (x3 x4 : Int32), x4.toInt = ((12 * r + X : Nat) : Int) → N = X + m → m < f → x3.toInt = (n : Int) → n ≤ I →
    (f_m12_wordOf_j2 p0 t i b40 b41 b42 f x3 x4).toInt = ((twl (fun k => b42 (12 * r + k)) (fun k => b41 (12 * r + k)) t.toInt m X)[I - n]?).getD (-1) := by
  have e12 : (((12 : Int32) * p0) + (b40 p0.toNatClampNeg)).toInt = ((12 * r + N : Nat) : Int) := by
    have e1 := toInt_mul sc12 hr rfl (by omega) (by omega)
    have e2 := toInt_add e1 hN (by omega) (by omega)
    rw [nc hr]; omega
  intro m
  induction m with
  | zero =>
    intro f X n x3 x4 hx hm hf _ _
    obtain ⟨f, rfl⟩ : ∃ w, f = w + 1 := ⟨f - 1, by omega⟩
    rw [S_m12_wordOf_j2, if_pos (by omega)]
    exact sm1
  | succ m ih =>
    intro f X n x3 x4 hx hm hf h3 hn
    obtain ⟨f, rfl⟩ : ∃ w, f = w + 1 := ⟨f - 1, by omega⟩
    have hx1 := toInt_add hx co1 (by omega) (by omega)
    have hx2 := toInt_add h3 co1 (by omega) (by omega)
    have o1 := co1
    rw [S_m12_wordOf_j2, if_neg (by omega), nc hx]
    by_cases w : (b42 (12 * r + X)).toInt = t.toInt
    · rw [if_pos w, twl_y (trn := fun k => b42 (12 * r + k)) (wrd := fun k => b41 (12 * r + k)) w]
      by_cases w2 : x3.toInt ≠ i.toInt
      · obtain ⟨d, hd⟩ : ∃ d, I - n = d + 1 := ⟨I - n - 1, by omega⟩
        rw [if_pos w2, ih f (X + 1) (n + 1) (x3 + Int32.ofInt 1) (x4 + Int32.ofInt 1) (by omega) (by omega) (by omega) (by omega) (by omega), hd, show I - (n + 1) = d by omega]
        rfl
      · rw [if_neg w2, show I - n = 0 by omega]
        rfl
    · rw [if_neg w, twl_n (trn := fun k => b42 (12 * r + k)) (wrd := fun k => b41 (12 * r + k)) w]
      exact ih f (X + 1) n x3 (x4 + Int32.ofInt 1) (by omega) (by omega) (by omega) h3 hn
theorem wi_of {p0 t i : Int32} {r N I : Nat} {b40 b41 b42 : Nat → Int32} (hr : p0.toInt = (r : Int)) (hr2 : r < 200) (hN : (b40 r).toInt = (N : Int)) (hN2 : N ≤ 12) (hi : i.toInt = (I : Int)) (hI : I ≤ 12) :
    (F_m12_wordOf p0 t i b40 b41 b42).toInt = ((twl (fun k => b42 (12 * r + k)) (fun k => b41 (12 * r + k)) t.toInt N 0)[I]?).getD (-1) := by
  have e1 := toInt_mul sc12 hr rfl (by omega) (by omega)
  rw [E_m12_wordOf]
  exact wi_loop hr hr2 hN hN2 hi hI N 2401 0 0 0 ((12 : Int32) * p0) (by omega) (by omega) (by omega) c0 (by omega)
theorem get_ext : ∀ (n : Nat) (A B : List Int), A.length ≤ n → B.length ≤ n → (∀ z, z ∈ A → 0 ≤ z) → (∀ z, z ∈ B → 0 ≤ z) → (∀ i, i < n → (A[i]?).getD (-1) = (B[i]?).getD (-1)) → A = B := by
  intro n
  induction n with
  | zero =>
    intro A B hA hB _ _ _
    rw [List.length_eq_zero_iff.mp (Nat.le_zero.mp hA), List.length_eq_zero_iff.mp (Nat.le_zero.mp hB)]
  | succ n ih =>
    intro A B hA hB pA pB h
    cases A with
    | nil =>
      cases B with
      | nil => rfl
      | cons b B =>
        have h0 : (-1 : Int) = b := h 0 (by omega)
        have := pB b (List.mem_cons.mpr (Or.inl rfl))
        omega
    | cons a A =>
      cases B with
      | nil =>
        have h0 : a = (-1 : Int) := h 0 (by omega)
        have := pA a (List.mem_cons.mpr (Or.inl rfl))
        omega
      | cons b B =>
        have h0 : a = b := h 0 (by omega)
        have hA' : A.length + 1 ≤ n + 1 := hA
        have hB' : B.length + 1 ≤ n + 1 := hB
        rw [h0, ih A B (by omega) (by omega) (fun z hz => pA z (List.mem_cons.mpr (Or.inr hz))) (fun z hz => pB z (List.mem_cons.mpr (Or.inr hz))) (fun i hi => h (i + 1) (by omega))]
theorem ta_loop {p0 p1 p2 p3 : Int32} {r q N M : Nat} {b40 b41 b42 : Nat → Int32} {A B : List Int} (hA : ∀ (i : Int32) (I : Nat), i.toInt = (I : Int) → I ≤ 12 → (F_m12_wordOf p0 p1 i b40 b41 b42).toInt = (A[I]?).getD (-1)) (hB : ∀ (i : Int32) (I : Nat), i.toInt = (I : Int) → I ≤ 12 → (F_m12_wordOf p2 p3 i b40 b41 b42).toInt = (B[I]?).getD (-1))
    (lA : A.length ≤ 12) (lB : B.length ≤ 12) (pA : ∀ z, z ∈ A → 0 ≤ z) (pB : ∀ z, z ∈ B → 0 ≤ z) : ∀ (m f I : Nat) (x : Int32), x.toInt = (I : Int) → 12 = I + m → m < f → (∀ i, i < I → (A[i]?).getD (-1) = (B[i]?).getD (-1)) →
    f_m12_areTurnedAlike_j1 p0 p1 p2 p3 b40 b41 b42 f x = if A = B then 1 else 0 := by
  have o1 := co1
  intro m
  induction m with
  | zero =>
    intro f I x hx hm hf h
    obtain ⟨f, rfl⟩ : ∃ w, f = w + 1 := ⟨f - 1, by omega⟩
    rw [S_m12_areTurnedAlike_j1, if_pos (by omega), if_pos (get_ext 12 A B lA lB pA pB (fun i hi => h i (by omega)))]
  | succ m ih =>
    intro f I x hx hm hf h
    obtain ⟨f, rfl⟩ : ∃ w, f = w + 1 := ⟨f - 1, by omega⟩
    have hx1 := toInt_add hx co1 (by omega) (by omega)
    rw [S_m12_areTurnedAlike_j1, if_neg (by omega), hA x I hx (by omega), hB x I hx (by omega)]
    by_cases w : (A[I]?).getD (-1) = (B[I]?).getD (-1)
    · rw [if_pos w]
      refine ih f (I + 1) (x + Int32.ofInt 1) (by omega) (by omega) (by omega) (fun i hi => ?_)
      by_cases e : i = I
      · rw [e]; exact w
      · exact h i (by omega)
    · rw [if_neg w, if_neg (fun z => w (by rw [z]))]
/-- the row of WORDS of TOKEN t of RENDERING r -/
def tw (ogn : Nat → Nat → Nat) (ogc : Nat → Nat → Nat → Int32) (r : Nat) (t : Int) : List Int := twl (ogc 5 r) (ogc 4 r) t (ogn 4 r) 0
theorem ta_of {p0 p1 p2 p3 i10 : Int32} {r q : Nat} {og : Nat → Nat → Int32} {ogn : Nat → Nat → Nat} {ogc : Nat → Nat → Nat → Int32} {b33 b34 b36 b37 b38 b39 b40 b41 b42 : Nat → Int32} (h10 : i10.toInt ≤ 200) (hN : RNC i10 og ogn ogc b33 b34 b36 b37 b38 b39 b40 b41 b42) (h0 : p0.toInt = (r : Int)) (h2 : p2.toInt = (q : Int)) (hr : (r : Int) < i10.toInt) (hq : (q : Int) < i10.toInt) :
    F_m12_areTurnedAlike p0 p1 p2 p3 b40 b41 b42 = if tw ogn ogc r p1.toInt = tw ogn ogc q p3.toInt then 1 else 0 := by
  have one : ∀ (p t : Int32) (r : Nat), p.toInt = (r : Int) → (r : Int) < i10.toInt → ((∀ (i : Int32) (I : Nat), i.toInt = (I : Int) → I ≤ 12 → (F_m12_wordOf p t i b40 b41 b42).toInt = ((tw ogn ogc r t.toInt)[I]?).getD (-1)) ∧ (tw ogn ogc r t.toInt).length ≤ 12 ∧ ∀ z, z ∈ tw ogn ogc r t.toInt → 0 ≤ z) := by
    intro p t r hp hr
    obtain ⟨_, _, ⟨s1, s2, s3, s4⟩⟩ := hN r hr
    have e : twl (fun k => b42 (12 * r + k)) (fun k => b41 (12 * r + k)) t.toInt (ogn 4 r) 0 = tw ogn ogc r t.toInt := twl_eq (ogn 4 r) 0 (fun k _ k2 => ⟨(s4 k (by omega)).2.1.symm, (s4 k (by omega)).1.symm⟩)
    refine ⟨fun i I hi hI => ?_, ?_, ?_⟩
    · rw [wi_of hp (by omega) s1 s3 hi hI, e]
    · have := twl_len (trn := ogc 5 r) (wrd := ogc 4 r) (t := t.toInt) (ogn 4 r) 0
      show (twl (ogc 5 r) (ogc 4 r) t.toInt (ogn 4 r) 0).length ≤ 12
      omega
    · exact twl_pos (ogn 4 r) 0 (fun k _ k2 => by rw [(s4 k (by omega)).1]; exact (s4 k (by omega)).2.2.1.1)
  obtain ⟨a1, a2, a3⟩ := one p0 p1 r h0 hr
  obtain ⟨b1, b2, b3⟩ := one p2 p3 q h2 hq
  rw [E_m12_areTurnedAlike]
  exact ta_loop (r := r) (q := q) (N := 0) (M := 0) a1 b1 a2 b2 a3 b3 12 13 0 0 c0 (by omega) (by omega) (fun i hi => absurd hi (by omega))
