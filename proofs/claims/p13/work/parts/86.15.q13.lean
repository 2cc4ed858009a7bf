/-! words, on both sides -/
def WDS (i2 : Int32) (a4 a5 b13 b14 : Nat → Int32) : Prop := ∀ w : Nat, (w : Int) < i2.toInt → (1 ≤ (b14 w).toInt ∧ (b14 w).toInt ≤ 12) ∧ a5 (5 * w) = b14 w ∧ ∀ k : Nat, (k : Int) < (b14 w).toInt → a4 (60 * w + k) = b13 (12 * w + k)
def LTR (a1 : Nat → Int32) (n : Int) : Prop := ∀ k : Nat, (k : Int) < n → 97 ≤ (a1 k).toInt ∧ (a1 k).toInt ≤ 122
theorem LTR_b {a1 b1 : Nat → Int32} {n : Int} (hT : TPR a1 b1) (h : LTR a1 n) {k : Nat} (hk : (k : Int) < n) : b1 k = a1 k := by
  obtain ⟨_, h2⟩ := hT k
  obtain ⟨g1, g2⟩ := h k hk
  rw [if_pos (by omega)] at h2
  exact eq_of_toInt h2
theorem nar_l {x : Int32} (h : 97 ≤ x.toInt ∧ x.toInt ≤ 122) : vp_nar .byte x.toInt8.toInt32 = x := by
  have e : x.toInt8.toInt32 = x := by rw [← vp_nar_byte, nar_b (by omega) (by omega)]
  rw [e, nar_b (by omega) (by omega)]
theorem c97 : (97 : Int32).toInt = 97 := by decide
theorem c122 : (122 : Int32).toInt = 122 := by decide
theorem c12 : (12 : Int32).toInt = 12 := by decide
theorem c5 : (5 : Int32).toInt = 5 := by decide
theorem let_loop {u : Int32} {a1 b1 : Nat → Int32} (hT : TPR a1 b1) : ∀ (m f g : Nat) (x : Int32) (k : Nat), x.toInt = (k : Int) → u.toInt = (k : Int) + m → k + m ≤ 200 → m < f → m < g →
    (f_x11_tapeHasLetters_j1 u a1 f x = 1 ∧ f_m12_isSmall_j1 u b1 g x = 1 ∧ ∀ i : Nat, k ≤ i → i < k + m → 97 ≤ (a1 i).toInt ∧ (a1 i).toInt ≤ 122) ∨ (f_x11_tapeHasLetters_j1 u a1 f x = 0 ∧ f_m12_isSmall_j1 u b1 g x = 0) := by
  have e1 := c97
  have e2 := c122
  intro m
  induction m with
  | zero =>
    intro f g x k hx hu _ hf hg
    obtain ⟨f, rfl⟩ : ∃ w, f = w + 1 := ⟨f - 1, by omega⟩
    obtain ⟨g, rfl⟩ : ∃ w, g = w + 1 := ⟨g - 1, by omega⟩
    rw [S_x11_tapeHasLetters_j1, S_m12_isSmall_j1, if_pos (by omega), if_pos (by omega)]
    exact Or.inl ⟨rfl, rfl, fun i h1 h2 => by omega⟩
  | succ m ih =>
    intro f g x k hx hu hk hf hg
    obtain ⟨f, rfl⟩ : ∃ w, f = w + 1 := ⟨f - 1, by omega⟩
    obtain ⟨g, rfl⟩ : ∃ w, g = w + 1 := ⟨g - 1, by omega⟩
    have hx1 := toInt_add hx co1 (by omega) (by omega)
    obtain ⟨t1, t2⟩ := hT k
    rw [S_x11_tapeHasLetters_j1, S_m12_isSmall_j1, if_neg (show ¬ x.toInt ≥ u.toInt by omega), if_neg (show ¬ x.toInt ≥ u.toInt by omega), nc hx]
    have IH := ih f g (x + Int32.ofInt 1) (k + 1) (by omega) (by omega) (by omega) (by omega) (by omega)
    rcases lie (u := b1 k) (a := 97) (b := 122) with ⟨q1, q2, q⟩ | ⟨q1, q⟩
    · have hl : 97 ≤ (a1 k).toInt ∧ (a1 k).toInt ≤ 122 := by split at t2 <;> omega
      rw [q, if_pos y10, if_neg (show ¬ (a1 k).toInt < 97 by omega), if_pos (show (a1 k).toInt ≤ 122 by omega)]
      rcases IH with ⟨i1, i2, i3⟩ | IH
      · refine Or.inl ⟨i1, i2, fun i h1 h2 => ?_⟩
        by_cases w : i = k
        · rw [w]; exact hl
        · exact i3 i (by omega) (by omega)
      · exact Or.inr IH
    · have hl : ¬ (97 ≤ (a1 k).toInt ∧ (a1 k).toInt ≤ 122) := by split at t2 <;> omega
      rw [q, if_neg n00]
      right
      by_cases w : (a1 k).toInt < 97
      · rw [if_pos w]; exact ⟨rfl, rfl⟩
      · rw [if_neg w, if_neg (by omega)]; exact ⟨rfl, rfl⟩
theorem let_of {u : Int32} {a1 b1 : Nat → Int32} (hT : TPR a1 b1) (hu : 0 ≤ u.toInt ∧ u.toInt ≤ 200) : (F_x11_tapeHasLetters u a1 = 1 ∧ F_m12_isSmall u b1 = 1 ∧ LTR a1 u.toInt) ∨ (F_x11_tapeHasLetters u a1 = 0 ∧ F_m12_isSmall u b1 = 0) := by
  obtain ⟨n, hn⟩ : ∃ n : Nat, u.toInt = (n : Int) := ⟨u.toInt.toNat, by omega⟩
  rcases let_loop (u := u) hT n 201 201 0 0 c0 (by omega) (by omega) (by omega) (by omega) with ⟨h1, h2, h3⟩ | h
  · exact Or.inl ⟨h1, h2, fun k hk => h3 k (by omega) (by omega)⟩
  · exact Or.inr h
/-- both compare a word with the tape's letters alike -/
theorem own_loop {u x5 xw : Int32} {w : Nat} {a1 b1 a4 b13 : Nat → Int32} {n : Nat} (hT : TPR a1 b1) (hL : LTR a1 (n : Int)) (hu : u.toInt = (n : Int)) (hn : n ≤ 12) (h5 : x5.toInt = ((5 * w : Nat) : Int)) (hw : xw.toInt = (w : Int)) (hw2 : w < 80) (hA : ∀ k : Nat, k < n → a4 (60 * w + k) = b13 (12 * w + k)) : ∀ (m f g : Nat) (x : Int32) (k : Nat), x.toInt = (k : Int) → k + m = n → m < f → m < g →
    f_x10_isSpelledSo_j4 x5 u a1 a4 f x = f_m12_isOwn_j4 xw u b1 b13 g x ∧ (f_x10_isSpelledSo_j4 x5 u a1 a4 f x = 1 ∨ f_x10_isSpelledSo_j4 x5 u a1 a4 f x = 0) := by
  intro m
  induction m with
  | zero =>
    intro f g x k hx hk hf hg
    obtain ⟨f, rfl⟩ : ∃ w, f = w + 1 := ⟨f - 1, by omega⟩
    obtain ⟨g, rfl⟩ : ∃ w, g = w + 1 := ⟨g - 1, by omega⟩
    rw [S_x10_isSpelledSo_j4, S_m12_isOwn_j4, if_pos (by omega), if_pos (by omega)]
    exact ⟨rfl, Or.inl rfl⟩
  | succ m ih =>
    intro f g x k hx hk hf hg
    obtain ⟨f, rfl⟩ : ∃ w, f = w + 1 := ⟨f - 1, by omega⟩
    obtain ⟨g, rfl⟩ : ∃ w, g = w + 1 := ⟨g - 1, by omega⟩
    have hx1 := toInt_add hx co1 (by omega) (by omega)
    have m1 : (x5 * (12 : Int32)).toInt = ((5 * w : Nat) : Int) * 12 := toInt_mul h5 c12 rfl (by omega) (by omega)
    have m2 := toInt_add m1 hx (by omega) (by omega)
    have m3 : ((12 : Int32) * xw).toInt = 12 * (w : Int) := toInt_mul c12 hw rfl (by omega) (by omega)
    have m4 := toInt_add m3 hx (by omega) (by omega)
    rw [S_x10_isSpelledSo_j4, S_m12_isOwn_j4, if_neg (show ¬ x.toInt ≥ u.toInt by omega), if_neg (show ¬ x.toInt ≥ u.toInt by omega), nc hx, nc (x := x5 * 12 + x) (p := 60 * w + k) (by omega), nc (x := 12 * xw + x) (p := 12 * w + k) (by omega), hA k (by omega), LTR_b hT hL (k := k) (by omega)]
    by_cases e : (b13 (12 * w + k)).toInt = (a1 k).toInt
    · rw [if_pos e, if_pos e]
      exact ih f g (x + Int32.ofInt 1) (k + 1) (by omega) (by omega) (by omega) (by omega)
    · rw [if_neg e, if_neg e]; exact ⟨rfl, Or.inr rfl⟩
theorem own_of {u xw i2 : Int32} {w n : Nat} {a1 b1 a4 a5 b13 b14 : Nat → Int32} (hT : TPR a1 b1) (hL : LTR a1 (n : Int)) (hu : u.toInt = (n : Int)) (hn : n ≤ 12) (hw : xw.toInt = (w : Int)) (hW : WDS i2 a4 a5 b13 b14) (hw2 : (w : Int) < i2.toInt) (hi : i2.toInt ≤ 80) :
    F_x10_isSpelledSo (xw * 5) u a1 a4 a5 = F_m12_isOwn xw u b1 b13 b14 ∧ (F_x10_isSpelledSo (xw * 5) u a1 a4 a5 = 1 ∨ F_x10_isSpelledSo (xw * 5) u a1 a4 a5 = 0) := by
  have m1 : (xw * (5 : Int32)).toInt = (w : Int) * 5 := toInt_mul hw c5 rfl (by omega) (by omega)
  have h5 : (xw * 5).toInt = ((5 * w : Nat) : Int) := by omega
  obtain ⟨w1, w2, w3⟩ := hW w hw2
  rw [E_x10_isSpelledSo, E_m12_isOwn, nc h5, nc hw, w2]
  by_cases e : (b14 w).toInt = u.toInt
  · rw [if_pos e, if_pos e]
    exact own_loop hT hL hu hn h5 hw (by omega) (fun k hk => w3 k (by omega)) n 13 13 0 0 c0 (by omega) (by omega) (by omega)
  · rw [if_neg e, if_neg e]; exact ⟨rfl, Or.inr rfl⟩
theorem there_loop {u i0 i2 : Int32} {n : Nat} {a1 b1 a4 a5 b13 b14 : Nat → Int32} (hT : TPR a1 b1) (hL : LTR a1 (n : Int)) (hu : u.toInt = (n : Int)) (hn : n ≤ 12) (hW : WDS i2 a4 a5 b13 b14) (hi : i2.toInt ≤ 80) : ∀ (m f g : Nat) (x : Int32) (w : Nat), x.toInt = (w : Int) → i2.toInt = (w : Int) + m → m < f → m < g →
    (f_x10_isThere_j1 u i2 a1 a4 a5 f x = 0 ∧ f_m12_word_j24 u i0 i2 b1 b13 b14 g x = f_m12_word_j29 u i2 b1 b13 b14 5 0) ∨ (f_x10_isThere_j1 u i2 a1 a4 a5 f x = 1 ∧ f_m12_word_j24 u i0 i2 b1 b13 b14 g x = ((-1 : Int32), i0, i2, b13, b14)) := by
  intro m
  induction m with
  | zero =>
    intro f g x w hx hm hf hg
    obtain ⟨f, rfl⟩ : ∃ w, f = w + 1 := ⟨f - 1, by omega⟩
    obtain ⟨g, rfl⟩ : ∃ w, g = w + 1 := ⟨g - 1, by omega⟩
    rw [S_x10_isThere_j1, S_m12_word_j24, if_pos (by omega), if_pos (by omega)]
    exact Or.inl ⟨rfl, rfl⟩
  | succ m ih =>
    intro f g x w hx hm hf hg
    obtain ⟨f, rfl⟩ : ∃ w, f = w + 1 := ⟨f - 1, by omega⟩
    obtain ⟨g, rfl⟩ : ∃ w, g = w + 1 := ⟨g - 1, by omega⟩
    have hx1 := toInt_add hx co1 (by omega) (by omega)
    have O := own_of (xw := x) hT hL hu hn hx hW (by omega) hi
    rw [S_x10_isThere_j1, S_m12_word_j24, if_neg (show ¬ x.toInt ≥ i2.toInt by omega), if_neg (show ¬ x.toInt ≥ i2.toInt by omega), ← O.1]
    rcases O.2 with o | o
    · rw [o, if_neg n10, if_neg n10]; exact Or.inr ⟨rfl, rfl⟩
    · rw [o, if_pos y00, if_pos y00]
      exact ih f g (x + Int32.ofInt 1) (w + 1) (by omega) (by omega) (by omega) (by omega)
theorem put_loop {u0 u2 : Int32} {fm n : Nat} {a1 a5 : Nat → Int32} (h0 : u0.toInt = (fm : Int)) (h1 : fm < 400) (hu : u2.toInt = (n : Int)) (hn : n ≤ 12) (hL : LTR a1 (n : Int)) : ∀ (m f : Nat) (x : Int32) (k : Nat) (a4 : Nat → Int32), x.toInt = (k : Int) → k + m = n → m < f →
    ∃ c4 : Nat → Int32, f_x10_put_j1 u0 u2 a1 a5 f x a4 = (c4, upd a5 fm u2) ∧ ∀ j, c4 j = if 12 * fm + k ≤ j ∧ j < 12 * fm + n then a1 (j - 12 * fm) else a4 j := by
  intro m
  induction m with
  | zero =>
    intro f x k a4 hx hk hf
    obtain ⟨f, rfl⟩ : ∃ w, f = w + 1 := ⟨f - 1, by omega⟩
    have e12 := c12
    refine ⟨a4, ?_, fun j => by rw [if_neg (by omega)]⟩
    have em : minI u2 12 = u2 := by unfold minI; rw [if_pos (by omega)]
    have e8 : u2.toInt8.toInt32 = u2 := by rw [← vp_nar_byte, nar_b (by omega) (by omega)]
    rw [S_x10_put_j1, if_pos (by omega), em, e8, nar_b (by omega) (by omega), nc h0]
  | succ m ih =>
    intro f x k a4 hx hk hf
    obtain ⟨f, rfl⟩ : ∃ w, f = w + 1 := ⟨f - 1, by omega⟩
    have hx1 := toInt_add hx co1 (by omega) (by omega)
    have m1 : (u0 * (12 : Int32)).toInt = (fm : Int) * 12 := toInt_mul h0 c12 rfl (by omega) (by omega)
    have m2 := toInt_add m1 hx (by omega) (by omega)
    obtain ⟨c4, e, h⟩ := ih f (x + Int32.ofInt 1) (k + 1) (upd a4 (u0 * 12 + x).toNatClampNeg (vp_nar .byte (a1 x.toNatClampNeg).toInt8.toInt32)) (by omega) (by omega) (by omega)
    refine ⟨c4, ?_, fun j => ?_⟩
    · rw [S_x10_put_j1, if_neg (by omega)]; exact e
    · rw [h j, nc hx, nc (x := u0 * 12 + x) (p := 12 * fm + k) (by omega), nar_l (hL k (by omega))]
      unfold upd
      by_cases w : 12 * fm + (k + 1) ≤ j ∧ j < 12 * fm + n
      · rw [if_pos w, if_pos (by omega)]
      · rw [if_neg w]
        by_cases w2 : j = 12 * fm + k
        · rw [if_pos w2, if_pos (by omega)]; congr 1; omega
        · rw [if_neg w2, if_neg (by omega)]
theorem mput_loop {u i3 : Int32} {w n : Nat} {b1 b14 : Nat → Int32} (h0 : i3.toInt = (w : Int)) (h1 : w < 80) (hu : u.toInt = (n : Int)) (hn : n ≤ 12) (hL : LTR b1 (n : Int)) : ∀ (m f : Nat) (x : Int32) (k : Nat) (b13 : Nat → Int32), x.toInt = (k : Int) → k + m = n → m < f →
    ∃ c13 : Nat → Int32, f_m12_word_j37 u i3 b1 b14 f x b13 = (((i3 + 1) - 1), (0 : Int32), (i3 + 1), c13, b14) ∧ ∀ j, c13 j = if 12 * w + k ≤ j ∧ j < 12 * w + n then b1 (j - 12 * w) else b13 j := by
  intro m
  induction m with
  | zero =>
    intro f x k b13 hx hk hf
    obtain ⟨f, rfl⟩ : ∃ w, f = w + 1 := ⟨f - 1, by omega⟩
    refine ⟨b13, ?_, fun j => by rw [if_neg (by omega)]⟩
    rw [S_m12_word_j37, if_pos (by omega)]
  | succ m ih =>
    intro f x k b13 hx hk hf
    obtain ⟨f, rfl⟩ : ∃ w, f = w + 1 := ⟨f - 1, by omega⟩
    have hx1 := toInt_add hx co1 (by omega) (by omega)
    have m3 : ((12 : Int32) * i3).toInt = 12 * (w : Int) := toInt_mul c12 h0 rfl (by omega) (by omega)
    have m4 := toInt_add m3 hx (by omega) (by omega)
    obtain ⟨c13, e, h⟩ := ih f (x + Int32.ofInt 1) (k + 1) (upd b13 (12 * i3 + x).toNatClampNeg (vp_nar .byte (b1 x.toNatClampNeg))) (by omega) (by omega) (by omega)
    have hl := hL k (by omega)
    refine ⟨c13, ?_, fun j => ?_⟩
    · rw [S_m12_word_j37, if_neg (by omega)]; exact e
    · rw [h j, nc hx, nc (x := 12 * i3 + x) (p := 12 * w + k) (by omega), nar_b (by omega) (by omega)]
      unfold upd
      by_cases w' : 12 * w + (k + 1) ≤ j ∧ j < 12 * w + n
      · rw [if_pos w', if_pos (by omega)]
      · rw [if_neg w']
        by_cases w2 : j = 12 * w + k
        · rw [if_pos w2, if_pos (by omega)]; congr 1; omega
        · rw [if_neg w2, if_neg (by omega)]
theorem j29_e {u i3 : Int32} {b1 b13 b14 : Nat → Int32} : f_m12_word_j29 u i3 b1 b13 b14 5 0 = f_m12_word_j37 u i3 b1 (upd b14 i3.toNatClampNeg u) 201 0 b13 := by
  have z : ∀ x : Int32, x = 0 ∨ x = 0 + Int32.ofInt 1 ∨ x = 0 + Int32.ofInt 1 + Int32.ofInt 1 ∨ x = 0 + Int32.ofInt 1 + Int32.ofInt 1 + Int32.ofInt 1 → ¬ x.toInt ≥ 4 := by
    intro x h
    rcases h with rfl | rfl | rfl | rfl <;> decide
  rw [show (5 : Nat) = 4 + 1 from rfl, S_m12_word_j29, if_neg (z _ (Or.inl rfl)), show (4 : Nat) = 3 + 1 from rfl, S_m12_word_j29, if_neg (z _ (Or.inr (Or.inl rfl))), show (3 : Nat) = 2 + 1 from rfl, S_m12_word_j29, if_neg (z _ (Or.inr (Or.inr (Or.inl rfl)))), show (2 : Nat) = 1 + 1 from rfl, S_m12_word_j29, if_neg (z _ (Or.inr (Or.inr (Or.inr rfl)))), show (1 : Nat) = 0 + 1 from rfl, S_m12_word_j29, if_pos (by decide)]
theorem R_word {u0 i0 i2 : Int32} {a1 b1 a4 a5 b13 b14 : Nat → Int32} (hi : 0 ≤ i0.toInt ∧ i0.toInt ≤ 200) (h2 : 0 ≤ i2.toInt ∧ i2.toInt ≤ 80) (hT : TPR a1 b1) (hW : WDS i2 a4 a5 b13 b14) {t : Int32 × Int32 × Int32 × (Nat → Int32) × (Nat → Int32)} {s : Int32 × Int32 × Int32 × (Nat → Int32) × (Nat → Int32)} (et : t = F_x11_word u0 i0 i2 a1 a4 a5) (es : s = F_m12_word u0 i0 i2 b1 b13 b14) :
    t.1 = s.1 ∧ t.2.1 = s.2.1 ∧ t.2.2.1 = s.2.2.1 ∧ WDS t.2.2.1 t.2.2.2.1 t.2.2.2.2 s.2.2.2.1 s.2.2.2.2 ∧ (0 ≤ t.2.1.toInt ∧ t.2.1.toInt ≤ 200) ∧ (0 ≤ t.2.2.1.toInt ∧ t.2.2.1.toInt ≤ 80) := by
  have e12 := c12
  have e1 := c1
  have e0 := c0
  have no : t = ((-1 : Int32), i0, i2, a4, a5) → s = ((-1 : Int32), i0, i2, b13, b14) → t.1 = s.1 ∧ t.2.1 = s.2.1 ∧ t.2.2.1 = s.2.2.1 ∧ WDS t.2.2.1 t.2.2.2.1 t.2.2.2.2 s.2.2.2.1 s.2.2.2.2 ∧ (0 ≤ t.2.1.toInt ∧ t.2.1.toInt ≤ 200) ∧ (0 ≤ t.2.2.1.toInt ∧ t.2.2.1.toInt ≤ 80) := by
    intro h1 h2'
    subst h1; subst h2'
    exact ⟨rfl, rfl, rfl, hW, hi, h2⟩
  rw [E_x11_word] at et
  rw [E_m12_word] at es
  rcases xth (u := u0) (m := 12) (i0 := i0) with ⟨k1, k⟩ | ⟨k1, k⟩
  · rw [k, if_neg n10] at et
    obtain ⟨n, hn⟩ : ∃ n : Nat, u0.toInt = (n : Int) := ⟨u0.toInt.toNat, by omega⟩
    obtain ⟨w, hw⟩ : ∃ w : Nat, i2.toInt = (w : Int) := ⟨i2.toInt.toNat, by omega⟩
    have ml : F_m12_lies u0 1 12 = 1 := by
      rcases lie (u := u0) (a := 1) (b := 12) with ⟨_, _, q⟩ | ⟨q1, _⟩
      · exact q
      · omega
    rw [ml, if_neg n10, if_neg (show ¬ u0.toInt > i0.toInt by omega)] at es
    rcases let_of (u := u0) hT (by omega) with ⟨l1, l2, l3⟩ | ⟨l1, l2⟩
    · rw [l1, if_pos y10, E_x10_enter] at et
      rw [l2, if_pos y10] at es
      by_cases f80 : i2.toInt = 80
      · rw [if_pos (show i2.toInt ≥ 80 by omega)] at et
        rw [if_pos f80] at es
        dsimp only at et
        rw [if_pos (by decide)] at et
        exact no et es
      · rw [if_neg (show ¬ i2.toInt ≥ 80 by omega)] at et
        rw [if_neg f80] at es
        rw [hn] at l3
        have TH := there_loop (u := u0) (i0 := i0) hT l3 hn (by omega) hW h2.2 w 81 81 0 0 c0 (by omega) (by omega) (by omega)
        have ef : F_x10_isThere u0 i2 a1 a4 a5 = f_x10_isThere_j1 u0 i2 a1 a4 a5 81 0 := rfl
        rw [ef] at et
        rcases TH with ⟨h1, h2'⟩ | ⟨h1, h2'⟩
        · rw [h1, if_pos y00] at et
          rw [h2', j29_e, nc hw] at es
          have m5 : (i2 * (5 : Int32)).toInt = (w : Int) * 5 := toInt_mul hw c5 rfl (by omega) (by omega)
          have m5' : (i2 * 5).toInt = ((5 * w : Nat) : Int) := by omega
          obtain ⟨c4, p1, p2⟩ := put_loop (u2 := u0) (a1 := a1) (a5 := a5) m5' (by omega) hn (by omega) l3 n 13 0 0 a4 c0 (by omega) (by omega)
          have lb : LTR b1 (n : Int) := fun k hk => by rw [LTR_b hT l3 hk]; exact l3 k hk
          obtain ⟨c13, q1, q2⟩ := mput_loop (u := u0) (b1 := b1) (b14 := upd b14 w u0) hw (by omega) hn (by omega) lb n 201 0 0 b13 c0 (by omega) (by omega)
          have ep : F_x10_put (i2 * 5) u0 a1 a4 a5 = f_x10_put_j1 (i2 * 5) u0 a1 a5 13 0 a4 := rfl
          rw [ep, p1] at et
          rw [q1] at es
          have s1 := toInt_add hw c1 (by omega) (by omega)
          have s2 := toInt_sub s1 c1 (by omega) (by omega)
          dsimp only at et
          rw [if_neg (by omega)] at et
          subst et; subst es
          refine ⟨rfl, rfl, rfl, ?_, by dsimp only; omega, by dsimp only; omega⟩
          intro w' hw'
          have hw' : (w' : Int) < (i2 + 1).toInt := hw'
          dsimp only
          by_cases e : w' = w
          · subst e
            have u1 : upd b14 w' u0 w' = u0 := upd_s
            rw [u1]
            refine ⟨by omega, upd_s, fun k hk => ?_⟩
            rw [p2, q2, if_pos (by omega), if_pos (by omega), LTR_b hT l3 (by omega)]
            congr 1; omega
          · obtain ⟨g1, g2, g3⟩ := hW w' (by omega)
            have u1 : upd b14 w u0 w' = b14 w' := by unfold upd; rw [if_neg e]
            have u2 : upd a5 (5 * w) u0 (5 * w') = a5 (5 * w') := by unfold upd; rw [if_neg (by omega)]
            rw [u1, u2]
            refine ⟨g1, g2, fun k hk => ?_⟩
            rw [p2, q2, if_neg (by omega), if_neg (by omega)]
            exact g3 k hk
        · rw [h1, if_neg n10] at et
          rw [h2'] at es
          dsimp only at et
          rw [if_pos (by decide)] at et
          exact no et es
    · rw [l1, if_neg n00] at et
      rw [l2, if_neg n00] at es
      by_cases f80 : i2.toInt = 80
      · rw [if_pos f80] at es; exact no et es
      · rw [if_neg f80] at es; exact no et es
  · rw [k, if_pos y00] at et
    by_cases f80 : i2.toInt = 80
    · rw [if_pos f80] at es; exact no et es
    · rw [if_neg f80] at es
      rcases lie (u := u0) (a := 1) (b := 12) with ⟨q1, q2, q⟩ | ⟨q1, q⟩
      · rw [q, if_neg n10, if_pos (by omega)] at es; exact no et es
      · rw [q, if_pos y00] at es; exact no et es
/-- spell: the tape and the words' own letters -/
theorem xhasW {u i3 : Int32} : ((0 ≤ u.toInt ∧ u.toInt < i3.toInt) ∧ F_x10_has u i3 = 1) ∨ (¬ (0 ≤ u.toInt ∧ u.toInt < i3.toInt) ∧ F_x10_has u i3 = 0) := by
  unfold F_x10_has f_x10_has_b_4
  by_cases h : u.toInt < 0
  · right; rw [if_pos h]; exact ⟨by omega, rfl⟩
  · rw [if_neg h]
    by_cases g : u.toInt ≥ i3.toInt
    · right; rw [if_pos g]; exact ⟨by omega, rfl⟩
    · left; rw [if_neg g]; exact ⟨by omega, rfl⟩
theorem mword {u i2 : Int32} (h0 : 0 ≤ i2.toInt) : ((0 ≤ u.toInt ∧ u.toInt < i2.toInt) ∧ F_m12_isWord u i2 = 1) ∨ (¬ (0 ≤ u.toInt ∧ u.toInt < i2.toInt) ∧ F_m12_isWord u i2 = 0) := by
  have hb : i2.toInt < 2147483648 := Int32.toInt_lt i2
  have e := toInt_sub (x := i2) rfl c1 (by omega) (by omega)
  have e0 := c0
  have e2 : F_m12_isWord u i2 = F_m12_lies u 0 (i2 - 1) := rfl
  rw [e2]
  rcases lie (u := u) (a := 0) (b := i2 - 1) with ⟨g1, g2, g⟩ | ⟨g1, g⟩
  · exact Or.inl ⟨by omega, g⟩
  · exact Or.inr ⟨by omega, g⟩
theorem xed {u : Int32} : ((0 ≤ u.toInt ∧ u.toInt ≤ 3) ∧ F_x11_isEdition u = 1) ∨ (¬ (0 ≤ u.toInt ∧ u.toInt ≤ 3) ∧ F_x11_isEdition u = 0) := by
  unfold F_x11_isEdition f_x11_isEdition_b_4
  by_cases h : u.toInt < 0
  · right; rw [if_pos h]; exact ⟨by omega, rfl⟩
  · rw [if_neg h]
    by_cases g : u.toInt ≥ 4
    · right; rw [if_pos g]; exact ⟨by omega, rfl⟩
    · left; rw [if_neg g]; exact ⟨by omega, rfl⟩
theorem R_spell {u0 u1 u2 i0 i2 : Int32} {a1 b1 a4 a5 b13 b14 : Nat → Int32} (hi : 0 ≤ i0.toInt ∧ i0.toInt ≤ 200) (h2 : 0 ≤ i2.toInt ∧ i2.toInt ≤ 80) (hT : TPR a1 b1) (hW : WDS i2 a4 a5 b13 b14) {t : Int32 × Int32 × (Nat → Int32) × (Nat → Int32)} (et : t = F_x11_spell u0 u1 u2 i0 i2 a1 a4 a5) {s : Int32} (es : s = F_m12_spell u0 u1 u2 i0 i2 b1) :
    t.2.1 = s ∧ (0 ≤ s.toInt ∧ s.toInt ≤ 200) ∧ WDS i2 t.2.2.1 t.2.2.2 b13 b14 ∧ ((t.1 = 1 ∧ s.toInt = 0 ∧ 1 ≤ i0.toInt) ∨ (t.1 = 0 ∧ s = i0)) := by
  have e12 := c12
  have e1 := c1
  have e0 := c0
  have e3 : (3 : Int32).toInt = 3 := by decide
  have no : t = ((0 : Int32), i0, a4, a5) → s = i0 → t.2.1 = s ∧ (0 ≤ s.toInt ∧ s.toInt ≤ 200) ∧ WDS i2 t.2.2.1 t.2.2.2 b13 b14 ∧ ((t.1 = 1 ∧ s.toInt = 0 ∧ 1 ≤ i0.toInt) ∨ (t.1 = 0 ∧ s = i0)) := by
    intro h1 h2'
    subst h1; subst h2'
    exact ⟨rfl, hi, hW, Or.inr ⟨rfl, rfl⟩⟩
  rw [E_x11_spell] at et
  rw [E_m12_spell] at es
  have le : ((0 ≤ u0.toInt ∧ u0.toInt ≤ 3) ∧ F_m12_lies u0 0 3 = 1) ∨ (¬ (0 ≤ u0.toInt ∧ u0.toInt ≤ 3) ∧ F_m12_lies u0 0 3 = 0) := by
    rcases lie (u := u0) (a := 0) (b := 3) with ⟨q1, q2, q⟩ | ⟨q1, q⟩
    · exact Or.inl ⟨by omega, q⟩
    · exact Or.inr ⟨by omega, q⟩
  rcases xed (u := u0) with ⟨h1, h⟩ | ⟨h1, h⟩
  · rcases le with ⟨_, g⟩ | ⟨g1, _⟩
    · rw [h, if_neg n10] at et
      rw [g, if_neg n10] at es
      rcases xhasW (u := u1) (i3 := i2) with ⟨w1, w⟩ | ⟨w1, w⟩
      · rcases mword (u := u1) (i2 := i2) h2.1 with ⟨_, v⟩ | ⟨v1, _⟩
        · rw [w, if_pos y10] at et
          rw [v, if_neg n10] at es
          rcases xth (u := u2) (m := 12) (i0 := i0) with ⟨k1, k⟩ | ⟨k1, k⟩
          · rw [k, if_neg n10] at et
            have ml : F_m12_lies u2 1 12 = 1 := by
              rcases lie (u := u2) (a := 1) (b := 12) with ⟨_, _, q⟩ | ⟨q1, _⟩
              · exact q
              · omega
            rw [ml, if_neg n10, if_neg (show ¬ u2.toInt > i0.toInt by omega)] at es
            rcases let_of (u := u2) hT (by omega) with ⟨l1, l2, l3⟩ | ⟨l1, l2⟩
            · rw [l1, if_pos y10, E_x10_respell, w, h, if_neg n10, if_neg n10] at et
              rw [l2, if_pos y10] at es
              obtain ⟨n, hn⟩ : ∃ n : Nat, u2.toInt = (n : Int) := ⟨u2.toInt.toNat, by omega⟩
              obtain ⟨z, hz⟩ : ∃ w : Nat, u1.toInt = (w : Int) := ⟨u1.toInt.toNat, by omega⟩
              obtain ⟨ed, he⟩ : ∃ w : Nat, u0.toInt = (w : Int) := ⟨u0.toInt.toNat, by omega⟩
              have m5 : (u1 * (5 : Int32)).toInt = (z : Int) * 5 := toInt_mul hz c5 rfl (by omega) (by omega)
              have m6 := toInt_add m5 c1 (by omega) (by omega)
              have m7 := toInt_add m6 he (by omega) (by omega)
              have m8 : (u1 * 5 + 1 + u0).toInt = ((5 * z + 1 + ed : Nat) : Int) := by omega
              rw [hn] at l3
              obtain ⟨c4, p1, p2⟩ := put_loop (u2 := u2) (a1 := a1) (a5 := a5) m8 (by omega) hn (by omega) l3 n 13 0 0 a4 c0 (by omega) (by omega)
              have ep : F_x10_put (u1 * 5 + 1 + u0) u2 a1 a4 a5 = f_x10_put_j1 (u1 * 5 + 1 + u0) u2 a1 a5 13 0 a4 := rfl
              rw [ep, p1] at et
              subst et; subst es
              refine ⟨rfl, by omega, ?_, Or.inl ⟨rfl, e0, by omega⟩⟩
              intro w' hw'
              dsimp only
              obtain ⟨g1, g2, g3⟩ := hW w' hw'
              have u2' : upd a5 (5 * z + 1 + ed) u2 (5 * w') = a5 (5 * w') := by unfold upd; rw [if_neg (by omega)]
              rw [u2']
              refine ⟨g1, g2, fun k hk => ?_⟩
              rw [p2, if_neg (by omega)]
              exact g3 k hk
            · rw [l1, if_neg n00] at et
              rw [l2, if_neg n00] at es
              exact no et es
          · rw [k, if_pos y00] at et
            rcases lie (u := u2) (a := 1) (b := 12) with ⟨q1, q2, q⟩ | ⟨q1, q⟩
            · rw [q, if_neg n10, if_pos (by omega)] at es; exact no et es
            · rw [q, if_pos y00] at es; exact no et es
        · exact absurd w1 v1
      · rcases mword (u := u1) (i2 := i2) h2.1 with ⟨v1, _⟩ | ⟨_, v⟩
        · exact absurd v1 w1
        · rw [w, if_neg n00] at et
          rw [v, if_pos y00] at es
          exact no et es
    · exact absurd h1 g1
  · rcases le with ⟨g1, _⟩ | ⟨_, g⟩
    · exact absurd g1 h1
    · rw [h, if_pos y00] at et
      rw [g, if_pos y00] at es
      exact no et es
/-- syllables -/
theorem vow {u : Int32} : F_x10_isVowel u = F_m12_isVowel u := rfl
theorem vow2 {u : Int32} : F_x10_isVowel u = 1 ∨ F_x10_isVowel u = 0 := by
  have e : F_x10_isVowel u = if u.toInt = 97 then (1 : Int32) else if u.toInt = 101 then (1 : Int32) else if u.toInt = 105 then (1 : Int32) else if u.toInt = 111 then (1 : Int32) else if u.toInt = 117 then (1 : Int32) else if u.toInt ≠ 121 then (0 : Int32) else (1 : Int32) := rfl
  rw [e]
  split
  · exact Or.inl rfl
  · split
    · exact Or.inl rfl
    · split
      · exact Or.inl rfl
      · split
        · exact Or.inl rfl
        · split
          · exact Or.inl rfl
          · split
            · exact Or.inr rfl
            · exact Or.inl rfl
theorem syl_loop {xw x5 : Int32} {w n : Nat} {a4 a5 b13 b14 : Nat → Int32} (hw : xw.toInt = (w : Int)) (hw2 : w < 80) (h5 : x5.toInt = ((5 * w : Nat) : Int)) (hs : a5 (5 * w) = b14 w) (hn : (b14 w).toInt = (n : Int)) (hn2 : n ≤ 12) (hA : ∀ k : Nat, k < n → a4 (60 * w + k) = b13 (12 * w + k)) : ∀ (m f g : Nat) (r v x : Int32) (k : Nat), x.toInt = (k : Int) → k + m = n → m < f → m < g → 0 ≤ r.toInt → r.toInt ≤ (k : Int) →
    f_x10_vowelRows_j9 a4 a5 x5 f r v x = f_m12_syllablesOf_j1 xw b13 b14 g r v x := by
  intro m
  induction m with
  | zero =>
    intro f g r v x k hx hk hf hg hr hr2
    obtain ⟨f, rfl⟩ : ∃ w, f = w + 1 := ⟨f - 1, by omega⟩
    obtain ⟨g, rfl⟩ : ∃ w, g = w + 1 := ⟨g - 1, by omega⟩
    have e1 := c1
    have e0 := c0
    rw [S_x10_vowelRows_j9, S_m12_syllablesOf_j1, nc h5, nc hw, hs, if_pos (show x.toInt ≥ (b14 w).toInt by omega), if_pos (show x.toInt ≥ (b14 w).toInt by omega)]
    unfold maxI
    by_cases w0 : r.toInt ≤ 0
    · rw [if_pos (by omega), if_pos w0]
    · rw [if_neg w0]
      by_cases w1 : r.toInt ≤ 1
      · rw [if_pos (by omega)]; exact eq_of_toInt (by omega)
      · rw [if_neg (by omega)]
  | succ m ih =>
    intro f g r v x k hx hk hf hg hr hr2
    obtain ⟨f, rfl⟩ : ∃ w, f = w + 1 := ⟨f - 1, by omega⟩
    obtain ⟨g, rfl⟩ : ∃ w, g = w + 1 := ⟨g - 1, by omega⟩
    have hx1 := toInt_add hx co1 (by omega) (by omega)
    have m1 : (x5 * (12 : Int32)).toInt = ((5 * w : Nat) : Int) * 12 := toInt_mul h5 c12 rfl (by omega) (by omega)
    have m2 := toInt_add m1 hx (by omega) (by omega)
    have m3 : ((12 : Int32) * xw).toInt = 12 * (w : Int) := toInt_mul c12 hw rfl (by omega) (by omega)
    have m4 := toInt_add m3 hx (by omega) (by omega)
    have e1 := c1
    have e0 := c0
    have r0 : r + 0 = r := eq_of_toInt (by have := toInt_add (x := r) rfl c0 (by omega) (by omega); omega)
    have r1 : r + Int32.ofInt 1 = r + 1 := rfl
    have r2 := toInt_add (x := r) rfl c1 (by omega) (by omega)
    rw [S_x10_vowelRows_j9, S_m12_syllablesOf_j1, nc h5, nc hw, hs, if_neg (show ¬ x.toInt ≥ (b14 w).toInt by omega), if_neg (show ¬ x.toInt ≥ (b14 w).toInt by omega), nc (x := x5 * 12 + x) (p := 60 * w + k) (by omega), nc (x := 12 * xw + x) (p := 12 * w + k) (by omega), hA k (by omega), ← vow, r0, r1]
    rcases vow2 (u := b13 (12 * w + k)) with o | o
    · rw [o, if_neg n10, if_neg n10]
      by_cases z : v.toInt ≠ 0
      · rw [if_pos z, if_pos z]
        exact ih f g r 1 (x + Int32.ofInt 1) (k + 1) (by omega) (by omega) (by omega) (by omega) hr (by omega)
      · rw [if_neg z, if_neg z]
        exact ih f g (r + 1) 1 (x + Int32.ofInt 1) (k + 1) (by omega) (by omega) (by omega) (by omega) (by omega) (by omega)
    · rw [o, if_pos y00, if_pos y00]
      exact ih f g r 0 (x + Int32.ofInt 1) (k + 1) (by omega) (by omega) (by omega) (by omega) hr (by omega)
theorem R_syllables {u0 i2 : Int32} {a4 a5 b13 b14 : Nat → Int32} (h2 : 0 ≤ i2.toInt ∧ i2.toInt ≤ 80) (hW : WDS i2 a4 a5 b13 b14) : F_x11_syllables u0 i2 a4 a5 = F_m12_syllables u0 i2 b13 b14 := by
  rw [E_x11_syllables, E_m12_syllables]
  rcases xhasW (u := u0) (i3 := i2) with ⟨w1, w⟩ | ⟨w1, w⟩
  · rcases mword (u := u0) (i2 := i2) h2.1 with ⟨_, v⟩ | ⟨v1, _⟩
    · rw [w, v, if_neg n10, if_neg n10, E_x10_vowelRows, w, if_pos y10, E_m12_syllablesOf]
      obtain ⟨z, hz⟩ : ∃ w : Nat, u0.toInt = (w : Int) := ⟨u0.toInt.toNat, by omega⟩
      obtain ⟨g1, g2, g3⟩ := hW z (by omega)
      obtain ⟨n, hn⟩ : ∃ n : Nat, (b14 z).toInt = (n : Int) := ⟨(b14 z).toInt.toNat, by omega⟩
      have m5 : (u0 * (5 : Int32)).toInt = (z : Int) * 5 := toInt_mul hz c5 rfl (by omega) (by omega)
      exact syl_loop hz (by omega) (by omega) g2 hn (by omega) (fun k hk => g3 k (by omega)) n 13 13 0 0 0 0 c0 (by omega) (by omega) (by omega) (by rw [c0]; omega) (by rw [c0]; omega)
    · exact absurd w1 v1
  · rcases mword (u := u0) (i2 := i2) h2.1 with ⟨v1, _⟩ | ⟨_, v⟩
    · exact absurd v1 w1
    · rw [w, v, if_pos y00, if_pos y00]
