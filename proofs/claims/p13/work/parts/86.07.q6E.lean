/-! the reference's conditions, with the code that it puts down -/
noncomputable def GB (r i10 : Int32) (a1 : Nat → Int32) (n : Nat) (i9 i11 i13 i14 i15 i17 : Int32) (v w a : Nat → Int32) : P10 := f_m12_condition_b_151 r i10 a1 0 (f_m12_condition_j25 r i10 a1 n) i9 i11 i13 i14 i15 i17 v w a
noncomputable def CB (r i10 : Int32) (a1 : Nat → Int32) (n : Nat) (t : P9) : P10 := if (F_m12_isGood t.2.1).toInt = 0 then f_m12_condition_j25 r i10 a1 n 1 t.1 t.2.1 t.2.2.1 t.2.2.2.1 t.2.2.2.2.1 0 t.2.2.2.2.2.1 t.2.2.2.2.2.2.1 t.2.2.2.2.2.2.2.1 t.2.2.2.2.2.2.2.2 else GB r i10 a1 n t.1 t.2.1 t.2.2.1 t.2.2.2.1 t.2.2.2.2.1 t.2.2.2.2.2.1 t.2.2.2.2.2.2.1 t.2.2.2.2.2.2.2.1 t.2.2.2.2.2.2.2.2
noncomputable def QP (r i10 : Int32) (a1 : Nat → Int32) (m n : Nat) (i9 i11 i13 i14 i15 : Int32) (v w a : Nat → Int32) : P10 := CB r i10 a1 n (f_m12_piece_j1 r i10 i13 a1 v w m i9 i11 i14 i15 a)
noncomputable def clt (r i10 : Int32) (a1 : Nat → Int32) (n : Nat) (i17 : Int32) (t : P10) : P10 := f_m12_condition_j25 r i10 a1 n t.1 t.2.1 t.2.2.1 t.2.2.2.1 t.2.2.2.2.1 t.2.2.2.2.2.1 t.2.2.2.2.2.2.1 i17 t.2.2.2.2.2.2.2.1 t.2.2.2.2.2.2.2.2.1 t.2.2.2.2.2.2.2.2.2
def cY (X : P10) : C3 := (X.2.2.1, X.2.2.2.2.2.2.2.1, X.2.2.2.2.2.2.2.2.1)
section MST
variable {r i10 i9 i11 i13 i14 i15 i16 i17 x : Int32} {a1 v w a : Nat → Int32} {n m : Nat}
theorem CL_bad (h : i11.toInt ≠ 0) : f_m12_condition_j25 r i10 a1 (n + 1) x i9 i11 i13 i14 i15 i16 i17 v w a = (i9, i11, i13, i14, i15, i16, i17, v, w, a) := by
  show (if (F_m12_isGood i11).toInt = 0 then (i9, i11, i13, i14, i15, i16, i17, v, w, a) else _) = _
  rw [good0 h, if_pos y00]
theorem CL_1 (h : i11.toInt = 0) : f_m12_condition_j25 r i10 a1 (n + 1) 1 i9 i11 i13 i14 i15 0 i17 v w a = QP r i10 a1 180 n i9 i11 i13 i14 i15 v w a := by
  show (if (F_m12_isGood i11).toInt = 0 then (i9, i11, i13, i14, i15, 0, i17, v, w, a) else if (0 : Int32).toInt ≠ 0 then (i9, i11, i13, i14, i15, 0, i17, v, w, a) else if (1 : Int32).toInt = 0 then _ else _) = _
  rw [good1 h, if_neg n10, if_neg n00, if_neg n10]
  rfl
theorem CL_0 (h : i11.toInt = 0) : f_m12_condition_j25 r i10 a1 (n + 1) 0 i9 i11 i13 i14 i15 0 i17 v w a = GB r i10 a1 n i9 i11 i13 i14 i15 i17 v w a := by
  show (if (F_m12_isGood i11).toInt = 0 then (i9, i11, i13, i14, i15, 0, i17, v, w, a) else if (0 : Int32).toInt ≠ 0 then (i9, i11, i13, i14, i15, 0, i17, v, w, a) else if (0 : Int32).toInt = 0 then _ else _) = _
  rw [good1 h, if_neg n10, if_neg n00, if_pos y00]
  rfl
theorem CL_d (h : i11.toInt = 0) : f_m12_condition_j25 r i10 a1 (n + 1) x i9 i11 i13 i14 i15 1 i17 v w a = (i9, i11, i13, i14, i15, 1, i17, v, w, a) := by
  show (if (F_m12_isGood i11).toInt = 0 then (i9, i11, i13, i14, i15, 1, i17, v, w, a) else if (1 : Int32).toInt ≠ 0 then (i9, i11, i13, i14, i15, 1, i17, v, w, a) else _) = _
  rw [good1 h, if_neg n10, if_pos y10]
theorem GB_e : GB r i10 a1 n i9 i11 i13 i14 i15 i17 v w a = clt r i10 a1 n i17 (F_m12_goesBehind r i9 i10 i11 i13 i14 i15 0 a1 v w a) := rfl
theorem gb_j1 (hc : (F_m12_here i9 i10 a1).toInt = 38) {t : Q4} (ht : F_m12_joins 0 r i11 i13 i15 v w a = t) : F_m12_goesBehind r i9 i10 i11 i13 i14 i15 i16 a1 v w a = ((1 : Int32), i9 + 1, i11, t.1, i14, t.2.1 + 1, i16, t.2.2.1, t.2.2.2, upd a t.2.1.toNatClampNeg (F_m12_here i9 i10 a1)) := by
  subst ht
  show (if (F_m12_here i9 i10 a1).toInt = 38 then (if (F_m12_here i9 i10 a1).toInt ≠ 124 then _ else _) else _) = _
  rw [if_pos hc, if_pos (by omega)]
  rfl
theorem gb_j2 (hc : (F_m12_here i9 i10 a1).toInt = 124) {t : Q4} (ht : F_m12_joins 1 r i11 i13 i15 v w a = t) : F_m12_goesBehind r i9 i10 i11 i13 i14 i15 i16 a1 v w a = ((1 : Int32), i9 + 1, i11, t.1, i14, t.2.1 + 1, i16, t.2.2.1, t.2.2.2, upd a t.2.1.toNatClampNeg (F_m12_here i9 i10 a1)) := by
  subst ht
  show (if (F_m12_here i9 i10 a1).toInt = 38 then _ else (if (F_m12_here i9 i10 a1).toInt ≠ 124 then _ else (if (F_m12_here i9 i10 a1).toInt ≠ 124 then _ else _))) = _
  rw [if_neg (by omega), if_neg (by omega), if_neg (by omega)]
  rfl
theorem gb_r (hc : (F_m12_here i9 i10 a1).toInt = 41) {t : Q4} (ht : F_m12_joins 1 r i11 i13 i15 v w a = t) : F_m12_goesBehind r i9 i10 i11 i13 i14 i15 i16 a1 v w a = if (t.2.1 - 1).toInt ≠ 0 then ((0 : Int32), i9 + 1, i11, (F_m12_ends r i11 t.1 (i14 - 1) (t.2.1 - 1) t.2.2.1 t.2.2.2 a).1, (F_m12_ends r i11 t.1 (i14 - 1) (t.2.1 - 1) t.2.2.1 t.2.2.2 a).2.1, (F_m12_ends r i11 t.1 (i14 - 1) (t.2.1 - 1) t.2.2.1 t.2.2.2 a).2.2.1, (0 : Int32), (F_m12_ends r i11 t.1 (i14 - 1) (t.2.1 - 1) t.2.2.1 t.2.2.2 a).2.2.2.1, (F_m12_ends r i11 t.1 (i14 - 1) (t.2.1 - 1) t.2.2.1 t.2.2.2 a).2.2.2.2, a) else ((0 : Int32), i9 + 1, i11, t.1, i14 - 1, t.2.1 - 1, (1 : Int32), t.2.2.1, t.2.2.2, a) := by
  subst ht
  show (if (F_m12_here i9 i10 a1).toInt = 38 then _ else (if (F_m12_here i9 i10 a1).toInt ≠ 124 then (if (F_m12_here i9 i10 a1).toInt = 41 then _ else _) else _)) = _
  rw [if_neg (by omega), if_pos (show (F_m12_here i9 i10 a1).toInt ≠ 124 by omega), if_pos hc]
  rfl
theorem gb_x (h1 : (F_m12_here i9 i10 a1).toInt ≠ 38) (h2 : (F_m12_here i9 i10 a1).toInt ≠ 124) (h3 : (F_m12_here i9 i10 a1).toInt ≠ 41) : F_m12_goesBehind r i9 i10 i11 i13 i14 i15 i16 a1 v w a = ((0 : Int32), i9, F_m12_fails 1 i9 i11, i13, i14, i15, i16, v, w, a) := by
  show (if (F_m12_here i9 i10 a1).toInt = 38 then _ else (if (F_m12_here i9 i10 a1).toInt ≠ 124 then (if (F_m12_here i9 i10 a1).toInt = 41 then _ else _) else _)) = _
  rw [if_neg h1, if_pos h2, if_neg h3]
  rfl
theorem CB_bad {t : P9} (h : t.2.1.toInt ≠ 0) : CB r i10 a1 (n + 1) t = (t.1, t.2.1, t.2.2.1, t.2.2.2.1, t.2.2.2.2.1, 0, t.2.2.2.2.2.1, t.2.2.2.2.2.2.1, t.2.2.2.2.2.2.2.1, t.2.2.2.2.2.2.2.2) := by
  unfold CB
  rw [good0 h, if_pos y00]
  exact CL_bad h
theorem CB_good {t : P9} (h : t.2.1.toInt = 0) : CB r i10 a1 n t = GB r i10 a1 n t.1 t.2.1 t.2.2.1 t.2.2.2.1 t.2.2.2.2.1 t.2.2.2.2.2.1 t.2.2.2.2.2.2.1 t.2.2.2.2.2.2.2.1 t.2.2.2.2.2.2.2.2 := by
  unfold CB
  rw [good1 h, if_neg n10]
theorem pp_open (hg : i11.toInt = 0) (hc : (F_m12_here i9 i10 a1).toInt = 33 ∨ (F_m12_here i9 i10 a1).toInt = 40) : f_m12_piece_j1 r i10 i13 a1 v w (m + 1) i9 i11 i14 i15 a = f_m12_piece_j1 r i10 i13 a1 v w m (F_m12_opens i9 i10 i11 i14 i15 a1 a).1 (F_m12_opens i9 i10 i11 i14 i15 a1 a).2.1 (F_m12_opens i9 i10 i11 i14 i15 a1 a).2.2.1 (F_m12_opens i9 i10 i11 i14 i15 a1 a).2.2.2.1 (F_m12_opens i9 i10 i11 i14 i15 a1 a).2.2.2.2 := by
  show (if (F_m12_isGood i11).toInt = 0 then _ else if (F_m12_here i9 i10 a1).toInt = 33 then _ else if (F_m12_here i9 i10 a1).toInt ≠ 40 then _ else _) = _
  rw [good1 hg, if_neg n10]
  by_cases w1 : (F_m12_here i9 i10 a1).toInt = 33
  · rw [if_pos w1]; rfl
  · rw [if_neg w1, if_neg (by omega)]; rfl
theorem pp_o (hg : i11.toInt = 0) (hc : (F_m12_here i9 i10 a1).toInt = 33 ∨ (F_m12_here i9 i10 a1).toInt = 40) (h : i14.toInt ≠ 6) : f_m12_piece_j1 r i10 i13 a1 v w (m + 1) i9 i11 i14 i15 a = f_m12_piece_j1 r i10 i13 a1 v w m (i9 + 1) i11 (i14 + 1) (i15 + 1) (upd a i15.toNatClampNeg (F_m12_here i9 i10 a1)) := by
  rw [pp_open hg hc, op_o h]
theorem P23_bad {x : Int32} (h : i11.toInt ≠ 0) : f_m12_piece_j23 r i10 a1 (m + 1) x i9 i11 i13 i14 i15 i17 v w a = (i9, i11, i13, i14, i15, i17, v, w, a) := by
  show (if x.toInt = 0 then (if (F_m12_isGood i11).toInt = 0 then (i9, i11, i13, i14, i15, i17, v, w, a) else _) else if (F_m12_isGood i11).toInt = 0 then (i9, i11, i13, i14, i15, i17, v, w, a) else _) = _
  rw [good0 h, if_pos y00, if_pos y00]
  split <;> rfl
theorem pp_6 (hg : i11.toInt = 0) (hc : (F_m12_here i9 i10 a1).toInt = 33 ∨ (F_m12_here i9 i10 a1).toInt = 40) (h : i14.toInt = 6) (h9 : 0 ≤ i9.toInt ∧ i9.toInt ≤ 1000) : ∃ (j9 j14 j15 : Int32) (b : Nat → Int32), f_m12_piece_j1 r i10 i13 a1 v w (m + 2) i9 i11 i14 i15 a = (j9, F_m12_fails 5 i9 i11, i13, j14, j15, 0, v, w, b) := by
  have c5 : (5 : Int32).toInt = 5 := by decide
  have eb := fl0 (f := 5) (a := i9) hg (by omega) h9
  refine ⟨i9 + 1, i14 + 1, i15 + 1, upd a i15.toNatClampNeg (F_m12_here i9 i10 a1), ?_⟩
  rw [pp_open hg hc, op_6 h]
  dsimp only
  show (if (F_m12_isGood (F_m12_fails 5 i9 i11)).toInt = 0 then f_m12_piece_j23 r i10 a1 2894000 1 (i9 + 1) (F_m12_fails 5 i9 i11) i13 (i14 + 1) (i15 + 1) 0 v w (upd a i15.toNatClampNeg (F_m12_here i9 i10 a1)) else _) = _
  rw [good0 (by omega), if_pos y00]
  exact P23_bad (show (F_m12_fails 5 i9 i11).toInt ≠ 0 by omega)
theorem pp_a (hg : i11.toInt = 0) (h1 : (F_m12_here i9 i10 a1).toInt ≠ 33) (h2 : (F_m12_here i9 i10 a1).toInt ≠ 40) : f_m12_piece_j1 r i10 i13 a1 v w (m + 1) i9 i11 i14 i15 a = FXa r i10 a1 180 2894001 i9 i11 i13 i14 i15 v w a := by
  show (if (F_m12_isGood i11).toInt = 0 then _ else if (F_m12_here i9 i10 a1).toInt = 33 then _ else if (F_m12_here i9 i10 a1).toInt ≠ 40 then f_m12_piece_j242 r i10 a1 2894002 1 i9 i11 i13 i14 i15 0 v w a else _) = _
  rw [good1 hg, if_neg n10, if_neg h1, if_pos h2]
  exact PL_1 (n := 2894001) hg
end MST
/-- E, a comparison, E -/
theorem m_cmp {T : Nat → Int} {n k : Nat} {r i10 i11 : Int32} {a1 b c : Nat → Int32} (hT : TXT T n) (hx : TXM T n i10 a1) (hg : i11.toInt = 0) {p f : Nat} {h : Int} {S : List Int} {E : List IN} {i9 i13 i14 i15 : Int32} {v w a : Nat → Int32} (hh : h = 33 ∨ h = 40 ∨ h = 38 ∨ h = 124) (hK : KP n p (h :: S) i9 i14 i15 a) (hC : CD r b c E (i13, v, w)) (hE : E.length + (h :: S).length ≤ p) (h6 : cn (h :: S) ≤ 6) (h1 : 1 ≤ cn (h :: S)) (hk : 4 * (n + 1 - p) + 1 < k) (hf : 400 ≤ f + p) {rr : Int × Nat} {W : List IN}
    (er : rr = seq (sp T k 1 (cn (h :: S)) p) (fun q => if T q = 60 ∨ T q = 62 ∨ T q = 61 then sp T k 1 (cn (h :: S)) (q + 1) else (-1000 - (q : Int), q)))
    (eWW : W = E ++ (cm T k 1 (cn (h :: S)) [] p ++ (cm T k 1 (cn (h :: S)) [] ((sp T k 1 (cn (h :: S)) p).2 + 1) ++ [(T (sp T k 1 (cn (h :: S)) p).2, 0)])) ++ dE (h :: S)) :
    (rr.1 < 0 ∧ (FXa r i10 a1 180 f i9 i11 i13 i14 i15 v w a).2.1.toInt = rr.1 ∧ FRM r b c (cX (FXa r i10 a1 180 f i9 i11 i13 i14 i15 v w a))) ∨ (rr.1 = 0 ∧ (((FXa r i10 a1 180 f i9 i11 i13 i14 i15 v w a).2.1.toInt = -1000 - (rr.2 : Int) ∧ FRM r b c (cX (FXa r i10 a1 180 f i9 i11 i13 i14 i15 v w a)) ∧ ¬ (T rr.2 = 38 ∨ T rr.2 = 124 ∨ T rr.2 = 41)) ∨ ∃ (j9 j13 j14 j15 j17 : Int32) (v2 w2 b2 : Nat → Int32), FXa r i10 a1 180 f i9 i11 i13 i14 i15 v w a = (j9, i11, j13, j14, j15, j17, v2, w2, b2) ∧ KP n rr.2 (dB (h :: S)) j9 j14 j15 b2 ∧ CD r b c W (j13, v2, w2) ∧ W.length + (dB (h :: S)).length ≤ rr.2)) := by
  have h160 := hT.1
  have c1' := c1
  subst er
  subst eWW
  have H := (m_sums (r := r) (b := b) (c := c) hT hx hg k).1 p 180 f h [] S E i9 i13 i14 i15 v w a (by intro z; omega) AO_n hK hC hE h6 h1 hk (by omega) hf
  have H2 := sp_ok hT k 1 (cn (h :: S)) p (by omega) hK.2.2.2.2.2 hk
  rcases H with ⟨r1, r2, r3⟩ | ⟨r1, r2, f2, L, E2, j9, j13, j14, j15, v2, w2, b2, e, eL, eK, ef, eC, eE, eW⟩
  · rw [seq_n r1]; exact Or.inl ⟨r1, r2, r3⟩
  · rw [seq_y r1, e]
    have hq : p < (sp T k 1 (cn (h :: S)) p).2 ∧ (sp T k 1 (cn (h :: S)) p).2 ≤ n := by
      rcases H2 with ⟨_, s2, s3⟩ | s
      · exact ⟨s2, s3⟩
      · omega
    generalize (sp T k 1 (cn (h :: S)) p).2 = q at r2 eK ef eE hq ⊢
    obtain ⟨q1, q2, q3, q4, q5, q6⟩ := eK
    have hr2 := hr_of hT hx q1
    have r2' : ¬ (T q = 42 ∨ T q = 47 ∨ T q = 37 ∨ T q = 43 ∨ T q = 45) := r2
    have hl1 := len_app (L := L) (h := h) (S := S)
    have hel := em_len L
    have hle : (E2 ++ em L).length = E2.length + (em L).length := List.length_append
    obtain ⟨t, ht, g3, g4, g5⟩ := sums_all (h := h) hg (by intro z; omega) eL (by omega) q3 q4 eC (by omega)
    have g3 : t.2.1.toInt = ((S.length + 1 : Nat) : Int) := g3
    have htp := tp_c g3 g4 (by omega)
    rw [cn_ao eL] at q2
    obtain ⟨f2, rfl⟩ : ∃ q, f2 = q + 1 := ⟨f2 - 1, by omega⟩
    have eb := fl0 (f := 1) (a := j9) hg (by omega) (by omega)
    rw [GO_good hg]
    show ((if T q = 60 ∨ T q = 62 ∨ T q = 61 then sp T k 1 (cn (h :: S)) (q + 1) else (-1000 - (q : Int), q)).1 < 0 ∧ _) ∨ _
    by_cases w0 : T q = 60 ∨ T q = 62 ∨ T q = 61
    · rw [if_pos w0]
      have hqn := T_in hT (p := q) (by omega)
      have hsg : (F_m12_isSign (F_m12_top t.2.1 b2)).toInt = 0 := by
        rcases sig (v := F_m12_top t.2.1 b2) with ⟨z, e⟩ | ⟨z, e⟩
        · omega
        · rw [e]; exact y00
      rw [g59_sg (by omega) ht, if_neg (by omega)]
      unfold plt
      rw [if_neg n10]
      dsimp only
      rw [PL_1 hg]
      have hK2 : KP n (q + 1) (T q :: h :: S) (j9 + 1) j14 (t.2.1 + 1) (upd b2 t.2.1.toNatClampNeg (F_m12_here j9 i10 a1)) := KP_put h160 q1 q2 g3 g4 (by show S.length + 1 ≤ q; omega) hqn hr2 (by omega)
      have hc : cn (T q :: h :: S) = cn (h :: S) := cn_n (by omega)
      have H := (m_sums (r := r) (b := b) (c := c) hT hx hg k).1 (q + 1) 180 f2 (T q) [] (h :: S) (E2 ++ em L) _ _ _ _ _ _ _ (by intro z; omega) AO_n hK2 g5 (by show (E2 ++ em L).length + (S.length + 1 + 1) ≤ q + 1; omega) (by omega) (by omega) (by omega) (by omega) (by omega)
      have H2 := sp_ok hT k 1 (cn (h :: S)) (q + 1) (by omega) (by omega) (by omega)
      rw [hc] at H
      rcases H with ⟨r1, r2, r3⟩ | ⟨r1, r3, f3, M, E3, l9, l13, l14, l15, v3, w3, b3, e2, eL2, eK2, ef2, eC2, eE2, eW2⟩
      · exact Or.inl ⟨r1, r2, r3⟩
      · rw [e2]
        refine Or.inr ⟨r1, ?_⟩
        have hq2 : q + 1 < (sp T k 1 (cn (h :: S)) (q + 1)).2 ∧ (sp T k 1 (cn (h :: S)) (q + 1)).2 ≤ n := by
          rcases H2 with ⟨_, s2, s3⟩ | s
          · exact ⟨s2, s3⟩
          · omega
        generalize (sp T k 1 (cn (h :: S)) (q + 1)).2 = z at r3 eK2 ef2 eE2 hq2
        obtain ⟨z1, z2, z3, z4, z5, z6⟩ := eK2
        have hr3 := hr_of hT hx z1
        have r3' : ¬ (T z = 42 ∨ T z = 47 ∨ T z = 37 ∨ T z = 43 ∨ T z = 45) := r3
        have hl2 := len_app (L := M) (h := T q) (S := h :: S)
        have hl3 : (h :: S).length = S.length + 1 := rfl
        have hem := em_len M
        have hlm : (E3 ++ em M).length = E3.length + (em M).length := List.length_append
        obtain ⟨t2, ht2, v3', v4, v5⟩ := sums_all (h := T q) hg (by intro z; omega) eL2 (by omega) z3 z4 eC2 (by omega)
        have v3' : t2.2.1.toInt = (((h :: S).length + 1 : Nat) : Int) := v3'
        have htp2 := tp_c v3' v4 (by omega)
        rw [cn_ao eL2, hc] at z2
        obtain ⟨f3, rfl⟩ : ∃ q, f3 = q + 1 := ⟨f3 - 1, by omega⟩
        have eb2 := fl0 (f := 1) (a := l9) hg (by omega) (by omega)
        have hsg2 : (F_m12_isSign (F_m12_top t2.2.1 b3)).toInt = 1 := by
          rcases sig (v := F_m12_top t2.2.1 b3) with ⟨z, e⟩ | ⟨z, e⟩
          · rw [e]; exact c1
          · omega
        rw [GO_good hg]
        by_cases w3 : T z = 93
        · left
          rw [g59_rb (by omega) ht2, if_neg (by omega)]
          unfold plt
          rw [if_pos y00]
          dsimp only
          rw [PL_bad (by omega)]
          exact ⟨by show (F_m12_fails 1 l9 i11).toInt = -1000 - (z : Int); omega, CD_frm v5, by omega⟩
        · by_cases w4 : T z = 60 ∨ T z = 62 ∨ T z = 61
          · left
            rw [g59_sg (by omega) ht2, if_pos (Or.inr (by omega))]
            unfold plt
            rw [if_neg n10]
            dsimp only
            rw [PL_bad (by omega)]
            exact ⟨by show (F_m12_fails 1 l9 i11).toInt = -1000 - (z : Int); omega, CD_frm v5, by omega⟩
          · right
            have hsn := snoc_len (E := E3 ++ em M) (x := (T q, 0))
            have hC3 := CD_emit (p1 := 0) v5 (by omega) hg htp2 c0
            rw [g59_el (by intro y; omega) (by omega) (by omega) ht2, if_neg (by omega)]
            unfold plt
            rw [if_pos y00]
            dsimp only
            have EE := ends_of (S := h :: S) (d := t2.2.1 - 1) (o := l14) hg (by omega) (pred_of v3' (by omega)) z2 v4.2 hC3 (by omega)
            obtain ⟨u, hu⟩ : ∃ u, F_m12_ends r i11 (F_m12_emit (F_m12_top t2.2.1 b3) 0 r i11 t2.1 t2.2.2.1 t2.2.2.2).1 l14 (t2.2.1 - 1) (F_m12_emit (F_m12_top t2.2.1 b3) 0 r i11 t2.1 t2.2.2.1 t2.2.2.2).2.1 (F_m12_emit (F_m12_top t2.2.1 b3) 0 r i11 t2.1 t2.2.2.1 t2.2.2.2).2.2 b3 = u := ⟨_, rfl⟩
            rw [PL_0 hg hu]
            rw [hu] at EE
            obtain ⟨E1, E2', E3', E4⟩ := EE
            have hd := dB_l (h :: S)
            have hde := dBE_len (h :: S)
            have elist : E ++ (cm T k 1 (cn (h :: S)) [] p ++ (cm T k 1 (cn (h :: S)) [] (q + 1) ++ [(T q, 0)])) ++ dE (h :: S) = E3 ++ em M ++ [(T q, 0)] ++ dE (h :: S) := by
              rw [eW2, eW]; simp only [List.append_assoc]
            have hll : (E3 ++ em M ++ [(T q, 0)] ++ dE (h :: S)).length = (E3 ++ em M ++ [(T q, 0)]).length + (dE (h :: S)).length := List.length_append
            rw [elist]
            exact ⟨l9, _, _, _, 0, _, _, b3, rfl, ⟨z1, E1, E2', E3', by omega, by omega⟩, E4, by omega⟩
    · rw [if_neg w0]
      by_cases w3 : T q = 93
      · rw [g59_rb (by omega) ht, if_neg (by omega)]
        unfold plt
        rw [if_pos y00]
        dsimp only
        rw [PL_bad (by omega)]
        exact Or.inl ⟨by show -1000 - (q : Int) < 0; omega, by show (F_m12_fails 1 j9 i11).toInt = -1000 - (q : Int); omega, CD_frm g5⟩
      · rw [g59_el (by intro z; omega) (by omega) (by omega) ht]
        rcases sig (v := F_m12_top t.2.1 b2) with ⟨z, e⟩ | ⟨z, e⟩
        · omega
        · rw [e, if_pos y00]
          unfold plt
          rw [if_pos y00]
          dsimp only
          rw [PL_bad (by omega)]
          exact Or.inl ⟨by show -1000 - (q : Int) < 0; omega, by show (F_m12_fails 1 j9 i11).toInt = -1000 - (q : Int); omega, CD_frm g5⟩
theorem joins_at {p0 d r i11 i13 : Int32} {b c a v w : Nat → Int32} {S L : List Int} {E : List IN} {P : Bool} (hg : i11.toInt = 0) (hP : P = true ↔ p0.toInt ≠ 0) (ho : AJ L) (hl : (L ++ 40 :: S).length ≤ 160) (hd : d.toInt = ((L ++ 40 :: S).length : Int)) (hs : SK a (L ++ 40 :: S)) (hC : CD r b c E (i13, v, w)) (hE : E.length + L.length ≤ 160) :
    ∃ t : Q4, F_m12_joins p0 r i11 i13 d v w a = t ∧ SO r b c (E ++ jE P L) a (jR P L ++ 40 :: S) t :=
  ⟨_, rfl, joins_of (k := (i13, v, w)) hg hP ho hl hd hs hC hE⟩
section GBS
variable {T : Nat → Int} {n q f : Nat} {r i10 i11 i9 i13 i14 i15 i17 : Int32} {a1 b c v w a : Nat → Int32} {L B : List Int} {E : List IN}
theorem GB_and (hT : TXT T n) (hx : TXM T n i10 a1) (hg : i11.toInt = 0) (hL : AJ L) (hK : KP n q (L ++ 40 :: B) i9 i14 i15 a) (hC : CD r b c E (i13, v, w)) (hE : E.length + (L ++ 40 :: B).length ≤ q) (hc : T q = 38 ∨ T q = 124) : ∃ (j9 j13 j15 : Int32) (v2 w2 b2 : Nat → Int32), GB r i10 a1 (f + 1) i9 i11 i13 i14 i15 i17 v w a = QP r i10 a1 180 f j9 i11 j13 i14 j15 v2 w2 b2 ∧ AJ (T q :: jR (opO (T q)) L) ∧ KP n (q + 1) (T q :: jR (opO (T q)) L ++ 40 :: B) j9 i14 j15 b2 ∧ CD r b c (E ++ jE (opO (T q)) L) (j13, v2, w2) ∧ (E ++ jE (opO (T q)) L).length + (T q :: jR (opO (T q)) L ++ 40 :: B).length ≤ q + 1 := by
  have h160 := hT.1
  obtain ⟨q1, q2, q3, q4, q5, q6⟩ := hK
  have hr := hr_of hT hx q1
  have hqn := T_in hT (p := q) (by omega)
  have hl1 := len_app (L := L) (h := 40) (S := B)
  have hjl := jRE_len (p := opO (T q)) L
  have hl2 := len_app (L := jR (opO (T q)) L) (h := 40) (S := B)
  have hll : (E ++ jE (opO (T q)) L).length = E.length + (jE (opO (T q)) L).length := List.length_append
  rw [cn_aj hL] at q2
  rcases hc with hc | hc
  · have hP : opO (T q) = true ↔ (0 : Int32).toInt ≠ 0 := ⟨fun z => by have := opO_i z; omega, fun z => absurd y00 z⟩
    obtain ⟨t, ht, g3, g4, g5⟩ := joins_at hg hP hL (by omega) q3 q4 hC (by omega)
    refine ⟨i9 + 1, t.1, t.2.1 + 1, t.2.2.1, t.2.2.2, upd a t.2.1.toNatClampNeg (F_m12_here i9 i10 a1), ?_, AJ_c (by omega) (jR_aj hL), KP_put (S := jR (opO (T q)) L ++ 40 :: B) h160 q1 (by rw [cn_aj (jR_aj hL)]; exact q2) g3 g4 (by omega) hqn (by omega) (by omega), g5, by show (E ++ jE (opO (T q)) L).length + ((jR (opO (T q)) L ++ 40 :: B).length + 1) ≤ q + 1; omega⟩
    rw [GB_e, gb_j1 (by omega) ht]
    exact CL_1 hg
  · have hP : opO (T q) = true ↔ (1 : Int32).toInt ≠ 0 := ⟨fun _ => y10, fun _ => decide_eq_true hc⟩
    obtain ⟨t, ht, g3, g4, g5⟩ := joins_at hg hP hL (by omega) q3 q4 hC (by omega)
    refine ⟨i9 + 1, t.1, t.2.1 + 1, t.2.2.1, t.2.2.2, upd a t.2.1.toNatClampNeg (F_m12_here i9 i10 a1), ?_, AJ_c (by omega) (jR_aj hL), KP_put (S := jR (opO (T q)) L ++ 40 :: B) h160 q1 (by rw [cn_aj (jR_aj hL)]; exact q2) g3 g4 (by omega) hqn (by omega) (by omega), g5, by show (E ++ jE (opO (T q)) L).length + ((jR (opO (T q)) L ++ 40 :: B).length + 1) ≤ q + 1; omega⟩
    rw [GB_e, gb_j2 (by omega) ht]
    exact CL_1 hg
theorem GB_bad (hT : TXT T n) (hx : TXM T n i10 a1) (hg : i11.toInt = 0) {S : List Int} (hK : KP n q S i9 i14 i15 a) (hC : CD r b c E (i13, v, w)) (hc : ¬ (T q = 38 ∨ T q = 124 ∨ T q = 41)) : (GB r i10 a1 (f + 1) i9 i11 i13 i14 i15 i17 v w a).2.1.toInt = -1000 - (q : Int) ∧ FRM r b c (cY (GB r i10 a1 (f + 1) i9 i11 i13 i14 i15 i17 v w a)) := by
  have h160 := hT.1
  have c1' := c1
  obtain ⟨q1, q2, q3, q4, q5, q6⟩ := hK
  have hr := hr_of hT hx q1
  have eb := fl0 (f := 1) (a := i9) hg (by omega) (by omega)
  have e0 : GB r i10 a1 (f + 1) i9 i11 i13 i14 i15 i17 v w a = (i9, F_m12_fails 1 i9 i11, i13, i14, i15, 0, i17, v, w, a) := by
    rw [GB_e, gb_x (by omega) (by omega) (by omega)]
    exact CL_bad (show (F_m12_fails 1 i9 i11).toInt ≠ 0 by omega)
  rw [e0]
  exact ⟨by show (F_m12_fails 1 i9 i11).toInt = _; omega, CD_frm hC⟩
theorem GB_close {h : Int} {S : List Int} (hT : TXT T n) (hx : TXM T n i10 a1) (hg : i11.toInt = 0) (hL : AJ L) (hK : KP n q (L ++ 40 :: (h :: S)) i9 i14 i15 a) (hC : CD r b c E (i13, v, w)) (hE : E.length + (L ++ 40 :: (h :: S)).length ≤ q) (hc : T q = 41) : ∃ (j9 j13 j14 j15 : Int32) (v2 w2 : Nat → Int32), GB r i10 a1 (f + 1) i9 i11 i13 i14 i15 i17 v w a = GB r i10 a1 f j9 i11 j13 j14 j15 i17 v2 w2 a ∧ KP n (q + 1) (dB (h :: S)) j9 j14 j15 a ∧ CD r b c (E ++ em L ++ dE (h :: S)) (j13, v2, w2) ∧ (E ++ em L ++ dE (h :: S)).length + (dB (h :: S)).length ≤ q + 1 := by
  have h160 := hT.1
  obtain ⟨q1, q2, q3, q4, q5, q6⟩ := hK
  have hr := hr_of hT hx q1
  have hqn := T_in hT (p := q) (by omega)
  have hl1 := len_app (L := L) (h := 40) (S := h :: S)
  have hl3 : (h :: S).length = S.length + 1 := rfl
  have hcl := cn_l (h :: S)
  have hel := em_len L
  rw [cn_aj hL, cn_y (by omega)] at q2
  obtain ⟨t, ht, g3, g4, g5⟩ := joins_at hg oneP hL (by omega) q3 q4 hC (by omega)
  rw [jR_t] at g3 g4
  rw [jE_t] at g5
  have g3 : t.2.1.toInt = (((h :: S).length + 1 : Nat) : Int) := g3
  have d1 := pred_of g3 (by omega)
  have d2 := pred_of q2 (by omega)
  have hll : (E ++ em L).length = E.length + (em L).length := List.length_append
  have hl4 : (E ++ em L ++ dE (h :: S)).length = (E ++ em L).length + (dE (h :: S)).length := List.length_append
  have EE := ends_of (S := h :: S) hg (by omega) d1 d2 g4.2 g5 (by omega)
  have hd := dB_l (h :: S)
  have hde := dBE_len (h :: S)
  obtain ⟨E1, E2, E3, E4⟩ := EE
  refine ⟨i9 + 1, _, _, _, _, _, ?_, ⟨suc_of q1 (by omega), E1, E2, E3, by omega, hqn⟩, E4, by omega⟩
  rw [GB_e, gb_r (by omega) ht, if_pos (by omega)]
  exact CL_0 hg
theorem GB_end (hT : TXT T n) (hx : TXM T n i10 a1) (hg : i11.toInt = 0) (hL : AJ L) (hK : KP n q (L ++ 40 :: []) i9 i14 i15 a) (hC : CD r b c E (i13, v, w)) (hE : E.length + (L ++ 40 :: []).length ≤ q) (hc : T q = 41) : (GB r i10 a1 (f + 1) i9 i11 i13 i14 i15 i17 v w a).1.toInt = ((q + 1 : Nat) : Int) ∧ (GB r i10 a1 (f + 1) i9 i11 i13 i14 i15 i17 v w a).2.1 = i11 ∧ CD r b c (E ++ em L) (cY (GB r i10 a1 (f + 1) i9 i11 i13 i14 i15 i17 v w a)) := by
  have h160 := hT.1
  obtain ⟨q1, q2, q3, q4, q5, q6⟩ := hK
  have hr := hr_of hT hx q1
  have hl1 := len_app (L := L) (h := 40) (S := [])
  have hl3 : ([] : List Int).length = 0 := rfl
  obtain ⟨t, ht, g3, g4, g5⟩ := joins_at hg oneP hL (by omega) q3 q4 hC (by omega)
  rw [jR_t] at g3 g4
  rw [jE_t] at g5
  have g3 : t.2.1.toInt = ((0 + 1 : Nat) : Int) := g3
  have d1 := pred_of g3 (by omega)
  rw [GB_e, gb_r (by omega) ht, if_neg (by omega)]
  have e : clt r i10 a1 (f + 1) i17 ((0 : Int32), i9 + 1, i11, t.1, i14 - 1, t.2.1 - 1, (1 : Int32), t.2.2.1, t.2.2.2, a) = (i9 + 1, i11, t.1, i14 - 1, t.2.1 - 1, (1 : Int32), i17, t.2.2.1, t.2.2.2, a) := CL_d hg
  rw [e]
  exact ⟨suc_of q1 (by omega), rfl, g5⟩
end GBS
def PR (T : Nat → Int) (n : Nat) (r i10 : Int32) (a1 : Nat → Int32) (i11 : Int32) (b c : Nat → Int32) (D : List Int) (W : List IN) (q : Int × Nat) (X : P10) : Prop :=
  (q.1 < 0 ∧ X.2.1.toInt = q.1 ∧ FRM r b c (cY X)) ∨ (q.1 = 0 ∧ ((X.2.1.toInt = -1000 - (q.2 : Int) ∧ FRM r b c (cY X) ∧ ¬ (T q.2 = 38 ∨ T q.2 = 124 ∨ T q.2 = 41)) ∨ ∃ (f' : Nat) (j9 j13 j14 j15 j17 : Int32) (v w a : Nat → Int32), X = GB r i10 a1 f' j9 i11 j13 j14 j15 j17 v w a ∧ KP n q.2 D j9 j14 j15 a ∧ 400 ≤ f' + q.2 ∧ CD r b c W (j13, v, w) ∧ W.length + D.length ≤ q.2))
def CR (T : Nat → Int) (n : Nat) (r i10 : Int32) (a1 : Nat → Int32) (i11 : Int32) (b c : Nat → Int32) (B : List Int) (W : List IN) (q : Int × Nat) (X : P10) : Prop :=
  (q.1 < 0 ∧ X.2.1.toInt = q.1 ∧ FRM r b c (cY X)) ∨ (q.1 = 0 ∧ ¬ (T q.2 = 38 ∨ T q.2 = 124) ∧ ((X.2.1.toInt = -1000 - (q.2 : Int) ∧ FRM r b c (cY X) ∧ T q.2 ≠ 41) ∨ ∃ (f' : Nat) (L : List Int) (E : List IN) (j9 j13 j14 j15 j17 : Int32) (v w a : Nat → Int32), X = GB r i10 a1 f' j9 i11 j13 j14 j15 j17 v w a ∧ AJ L ∧ KP n q.2 (L ++ 40 :: B) j9 j14 j15 a ∧ 400 ≤ f' + q.2 ∧ CD r b c E (j13, v, w) ∧ E.length + (L ++ 40 :: B).length ≤ q.2 ∧ E ++ em L = W))
def MPP (T : Nat → Int) (n : Nat) (r i10 : Int32) (a1 : Nat → Int32) (i11 : Int32) (b c : Nat → Int32) (k : Nat) : Prop := ∀ (p m f : Nat) (h : Int) (S : List Int) (E : List IN) (i9 i13 i14 i15 : Int32) (v w a : Nat → Int32), (h = 33 ∨ h = 40 ∨ h = 38 ∨ h = 124) → KP n p (h :: S) i9 i14 i15 a → CD r b c E (i13, v, w) → E.length + (h :: S).length ≤ p → cn (h :: S) ≤ 6 → 1 ≤ cn (h :: S) → 4 * (n + 1 - p) + 2 < k → 170 ≤ m + p → 400 ≤ f + p →
  PR T n r i10 a1 i11 b c (dB (h :: S)) (E ++ cm T k 2 (cn (h :: S)) [] p ++ dE (h :: S)) (sp T k 2 (cn (h :: S)) p) (QP r i10 a1 m f i9 i11 i13 i14 i15 v w a)
def MCC (T : Nat → Int) (n : Nat) (r i10 : Int32) (a1 : Nat → Int32) (i11 : Int32) (b c : Nat → Int32) (k : Nat) : Prop := ∀ (p m f : Nat) (L B : List Int) (E : List IN) (i9 i13 i14 i15 : Int32) (v w a : Nat → Int32), AJ L → KP n p (L ++ 40 :: B) i9 i14 i15 a → CD r b c E (i13, v, w) → E.length + (L ++ 40 :: B).length ≤ p → cn (40 :: B) ≤ 6 → 4 * (n + 1 - p) + 3 < k → 170 ≤ m + p → 400 ≤ f + p →
  CR T n r i10 a1 i11 b c B (E ++ cm T k 3 (cn (40 :: B)) L p) (sp T k 3 (cn (40 :: B)) p) (QP r i10 a1 m f i9 i11 i13 i14 i15 v w a)
theorem m_piece {T : Nat → Int} {n k : Nat} {r i10 i11 : Int32} {a1 b c : Nat → Int32} (hT : TXT T n) (hx : TXM T n i10 a1) (hg : i11.toInt = 0) (ih : MPP T n r i10 a1 i11 b c k) (ihc : MCC T n r i10 a1 i11 b c k) : MPP T n r i10 a1 i11 b c (k + 1) := by
  have h160 := hT.1
  have c5 : (5 : Int32).toInt = 5 := by decide
  intro p m f h S E i9 i13 i14 i15 v w a hh hK hC hE h6 h1 hk hm hf
  have hK0 := hK
  obtain ⟨k1, k2, k3, k4, k5, k6⟩ := hK
  have hr := hr_of hT hx k1
  have hE' : E.length + (S.length + 1) ≤ p := hE
  obtain ⟨m, rfl⟩ : ∃ q, m = q + 2 := ⟨m - 2, by omega⟩
  obtain ⟨f, rfl⟩ : ∃ q, f = q + 1 := ⟨f - 1, by omega⟩
  rw [sp_2, cm_2]
  by_cases h33 : T p = 33
  · rw [if_pos h33, if_pos h33]
    have hpn := T_in hT (p := p) (by omega)
    by_cases ho : 6 ≤ cn (h :: S)
    · rw [if_pos ho]
      have eb := fl0 (f := 5) (a := i9) hg (by omega) (by omega)
      obtain ⟨j9, j14, j15, b2, e6⟩ := pp_6 (r := r) (i13 := i13) (v := v) (w := w) (m := m) (a := a) (i15 := i15) hg (Or.inl (show (F_m12_here i9 i10 a1).toInt = 33 by omega)) (show i14.toInt = 6 by omega) (by omega)
      have e7 : QP r i10 a1 (m + 2) (f + 1) i9 i11 i13 i14 i15 v w a = (j9, F_m12_fails 5 i9 i11, i13, j14, j15, 0, 0, v, w, b2) := by
        unfold QP
        rw [e6]; exact CB_bad (by show (F_m12_fails 5 i9 i11).toInt ≠ 0; omega)
      rw [e7]
      exact Or.inl ⟨by show -5000 - (p : Int) < 0; omega, by show (F_m12_fails 5 i9 i11).toInt = -5000 - (p : Int); omega, CD_frm hC⟩
    · rw [if_neg ho]
      have hc : cn (33 :: h :: S) = cn (h :: S) + 1 := cn_y (by omega)
      have hK2 := KP_push h160 hK0 hpn (show (F_m12_here i9 i10 a1).toInt = 33 by omega) (by omega)
      have H := ih (p + 1) (m + 1) (f + 1) 33 (h :: S) E _ _ _ _ _ _ _ (by omega) hK2 hC (by show E.length + (S.length + 1 + 1) ≤ p + 1; omega) (by omega) (by omega) (by omega) (by omega) (by omega)
      rw [hc, dB_y, dE_y] at H
      have e : QP r i10 a1 (m + 2) (f + 1) i9 i11 i13 i14 i15 v w a = QP r i10 a1 (m + 1) (f + 1) (i9 + 1) i11 i13 (i14 + 1) (i15 + 1) v w (upd a i15.toNatClampNeg (F_m12_here i9 i10 a1)) := by
        unfold QP
        rw [pp_o hg (Or.inl (by omega)) (by omega)]
      have el : E ++ (cm T k 2 (cn (h :: S) + 1) [] (p + 1) ++ [(2, 0)]) ++ dE (h :: S) = E ++ cm T k 2 (cn (h :: S) + 1) [] (p + 1) ++ (2, 0) :: dE (h :: S) := by
        simp only [List.append_assoc, List.cons_append, List.nil_append]
      rw [e, el]; exact H
  · rw [if_neg h33, if_neg h33]
    by_cases h40 : T p = 40
    · rw [if_pos h40, if_pos h40]
      have hpn := T_in hT (p := p) (by omega)
      by_cases ho : 6 ≤ cn (h :: S)
      · rw [if_pos ho]
        have eb := fl0 (f := 5) (a := i9) hg (by omega) (by omega)
        obtain ⟨j9, j14, j15, b2, e6⟩ := pp_6 (r := r) (i13 := i13) (v := v) (w := w) (m := m) (a := a) (i15 := i15) hg (Or.inr (show (F_m12_here i9 i10 a1).toInt = 40 by omega)) (show i14.toInt = 6 by omega) (by omega)
        have e7 : QP r i10 a1 (m + 2) (f + 1) i9 i11 i13 i14 i15 v w a = (j9, F_m12_fails 5 i9 i11, i13, j14, j15, 0, 0, v, w, b2) := by
          unfold QP
          rw [e6]; exact CB_bad (by show (F_m12_fails 5 i9 i11).toInt ≠ 0; omega)
        rw [e7]
        exact Or.inl ⟨by show -5000 - (p : Int) < 0; omega, by show (F_m12_fails 5 i9 i11).toInt = -5000 - (p : Int); omega, CD_frm hC⟩
      · rw [if_neg ho]
        have hc : cn (40 :: h :: S) = cn (h :: S) + 1 := cn_y (by omega)
        have hK2 := KP_push h160 hK0 hpn (show (F_m12_here i9 i10 a1).toInt = 40 by omega) (by omega)
        have H := ihc (p + 1) (m + 1) (f + 1) [] (h :: S) E _ _ _ _ _ _ _ AJ_n hK2 hC (by show E.length + (S.length + 1 + 1) ≤ p + 1; omega) (by omega) (by omega) (by omega) (by omega)
        have H2 := sp_ok hT k 3 (cn (h :: S) + 1) (p + 1) (by omega) (by omega) (by omega)
        rw [hc] at H
        have e : QP r i10 a1 (m + 2) (f + 1) i9 i11 i13 i14 i15 v w a = QP r i10 a1 (m + 1) (f + 1) (i9 + 1) i11 i13 (i14 + 1) (i15 + 1) v w (upd a i15.toNatClampNeg (F_m12_here i9 i10 a1)) := by
          unfold QP
          rw [pp_o hg (Or.inr (by omega)) (by omega)]
        rw [e]
        rcases H with ⟨r1, r2, r3⟩ | ⟨r1, r0, H⟩
        · rw [seq_n r1]; exact Or.inl ⟨r1, r2, r3⟩
        · rw [seq_y r1]
          have hq : p + 1 < (sp T k 3 (cn (h :: S) + 1) (p + 1)).2 ∧ (sp T k 3 (cn (h :: S) + 1) (p + 1)).2 ≤ n := by
            rcases H2 with ⟨_, s2, s3⟩ | s
            · exact ⟨s2, s3⟩
            · omega
          generalize (sp T k 3 (cn (h :: S) + 1) (p + 1)).2 = q at r0 H hq
          show PR T n r i10 a1 i11 b c (dB (h :: S)) (E ++ cm T k 3 (cn (h :: S) + 1) [] (p + 1) ++ dE (h :: S)) (if T q = 41 then (0, q + 1) else (-1000 - (q : Int), q)) _
          rcases H with ⟨b1, b2, b3⟩ | ⟨f', L', E', j9, j13, j14, j15, j17, v2, w2, b2, e, eL, eK, ef, eC, eE, eW⟩
          · rw [if_neg b3]
            exact Or.inl ⟨by show -1000 - (q : Int) < 0; omega, b1, b2⟩
          · rw [e]
            obtain ⟨f', rfl⟩ : ∃ z, f' = z + 1 := ⟨f' - 1, by omega⟩
            by_cases w0 : T q = 41
            · rw [if_pos w0]
              obtain ⟨l9, l13, l14, l15, v3, w3, e2, eK2, eC2, eE2⟩ := GB_close (f := f') (i17 := j17) hT hx hg eL eK eC eE w0
              rw [eW] at eC2 eE2
              exact Or.inr ⟨rfl, Or.inr ⟨f', l9, l13, l14, l15, j17, v3, w3, b2, e2, eK2, by show 400 ≤ f' + (q + 1); omega, eC2, eE2⟩⟩
            · rw [if_neg w0]
              have G := GB_bad (f := f') (i17 := j17) hT hx hg eK eC (by omega)
              exact Or.inl ⟨by show -1000 - (q : Int) < 0; omega, G.1, G.2⟩
    · rw [if_neg h40, if_neg h40]
      have H := m_cmp (i9 := i9) (i14 := i14) (i15 := i15) (a := a) (f := 2894001) hT hx hg hh hK0 hC hE h6 h1 (k := k) (by omega) (by omega) rfl rfl
      have e : QP r i10 a1 (m + 2) (f + 1) i9 i11 i13 i14 i15 v w a = CB r i10 a1 (f + 1) (FXa r i10 a1 180 2894001 i9 i11 i13 i14 i15 v w a) := by
        unfold QP
        rw [pp_a hg (by omega) (by omega)]
      rw [e]
      have H2 := sp_ok hT (k + 1) 2 (cn (h :: S)) p (by omega) k6 hk
      rw [sp_2, if_neg h33, if_neg h40] at H2
      generalize E ++ (cm T k 1 (cn (h :: S)) [] p ++ (cm T k 1 (cn (h :: S)) [] ((sp T k 1 (cn (h :: S)) p).2 + 1) ++ [(T (sp T k 1 (cn (h :: S)) p).2, 0)])) ++ dE (h :: S) = W at H ⊢
      generalize seq (sp T k 1 (cn (h :: S)) p) (fun q => if T q = 60 ∨ T q = 62 ∨ T q = 61 then sp T k 1 (cn (h :: S)) (q + 1) else (-1000 - (q : Int), q)) = rr at H H2 ⊢
      rcases H with ⟨r1, r2, r3⟩ | ⟨r1, H⟩
      · rw [CB_bad (by omega)]
        exact Or.inl ⟨r1, r2, r3⟩
      · refine Or.inr ⟨r1, ?_⟩
        rcases H with ⟨b1, b2, b3⟩ | ⟨j9, j13, j14, j15, j17, v2, w2, b2, e2, eK, eC, eE⟩
        · rw [CB_bad (by omega)]
          exact Or.inl ⟨b1, b2, b3⟩
        · refine Or.inr ⟨f + 1, j9, j13, j14, j15, j17, v2, w2, b2, ?_, eK, ?_, eC, eE⟩
          · rw [e2]; exact CB_good hg
          · rcases H2 with ⟨_, s2, s3⟩ | s
            · omega
            · omega
theorem m_cond {T : Nat → Int} {n k : Nat} {r i10 i11 : Int32} {a1 b c : Nat → Int32} (hT : TXT T n) (hx : TXM T n i10 a1) (hg : i11.toInt = 0) (ih : MPP T n r i10 a1 i11 b c k) (ihc : MCC T n r i10 a1 i11 b c k) : MCC T n r i10 a1 i11 b c (k + 1) := by
  have h160 := hT.1
  intro p m f L B E i9 i13 i14 i15 v w a hL hK hC hE h6 hk hm hf
  have k6 := hK.2.2.2.2.2
  have hcB : cn (40 :: B) = cn B + 1 := cn_y (by omega)
  rw [sp_3, cm_3, ← List.append_assoc]
  have H2 := sp_ok hT k 2 (cn (40 :: B)) p (by omega) k6 (by omega)
  have H : PR T n r i10 a1 i11 b c (L ++ 40 :: B) (E ++ cm T k 2 (cn (40 :: B)) [] p) (sp T k 2 (cn (40 :: B)) p) (QP r i10 a1 m f i9 i11 i13 i14 i15 v w a) := by
    cases L with
    | nil =>
      have H := ih p m f 40 B E i9 i13 i14 i15 v w a (by omega) hK hC hE h6 (by omega) (by omega) hm hf
      rw [dB_n (by omega), dE_n (by omega), List.append_nil] at H
      exact H
    | cons x L =>
      have hc := hL x (List.mem_cons_self ..)
      have ec : cn (x :: (L ++ 40 :: B)) = cn (40 :: B) := (cn_n (by omega)).trans (cn_aj (AJ_t hL))
      have H := ih p m f x (L ++ 40 :: B) E i9 i13 i14 i15 v w a (by omega) hK hC hE (by omega) (by omega) (by omega) hm hf
      rw [dB_n (by omega), dE_n (by omega), List.append_nil, ec] at H
      exact H
  rcases H with ⟨r1, r2, r3⟩ | ⟨r1, H⟩
  · rw [seq_n r1]; exact Or.inl ⟨r1, r2, r3⟩
  · rw [seq_y r1]
    have hq : p < (sp T k 2 (cn (40 :: B)) p).2 ∧ (sp T k 2 (cn (40 :: B)) p).2 ≤ n := by
      rcases H2 with ⟨_, s2, s3⟩ | s
      · exact ⟨s2, s3⟩
      · omega
    generalize (sp T k 2 (cn (40 :: B)) p).2 = q at H hq ⊢
    show CR T n r i10 a1 i11 b c B _ (if opA (T q) = true ∨ opO (T q) = true then sp T k 3 (cn (40 :: B)) (q + 1) else (0, q)) _
    by_cases w0 : opA (T q) = true ∨ opO (T q) = true
    · have w' : T q = 38 ∨ T q = 124 := by
        rcases w0 with w0 | w0
        · exact Or.inl (opA_i w0)
        · exact Or.inr (opO_i w0)
      rw [if_pos w0, if_pos w0]
      rcases H with ⟨_, _, b2⟩ | ⟨f', j9, j13, j14, j15, j17, v2, w2, b2, e, eK, ef, eC, eE⟩
      · omega
      · obtain ⟨f', rfl⟩ : ∃ z, f' = z + 1 := ⟨f' - 1, by omega⟩
        obtain ⟨l9, l13, l15, v3, w3, b3, e2, eL2, eK2, eC2, eE2⟩ := GB_and (f := f') (i17 := j17) hT hx hg hL eK eC eE w'
        rw [e, e2, ← List.append_assoc]
        exact ihc (q + 1) 180 f' _ B _ l9 l13 j14 l15 v3 w3 b3 eL2 eK2 eC2 eE2 h6 (by omega) (by omega) (by omega)
    · rw [if_neg w0, if_neg w0]
      have w1 := opA_o (fun z => w0 (Or.inl z))
      have w2 := opO_o (fun z => w0 (Or.inr z))
      refine Or.inr ⟨rfl, fun z => z.elim w1 w2, ?_⟩
      rcases H with ⟨b1, b2, b3⟩ | ⟨f', j9, j13, j14, j15, j17, v2, w2', b2, e, eK, ef, eC, eE⟩
      · exact Or.inl ⟨b1, b2, fun z => b3 (Or.inr (Or.inr z))⟩
      · exact Or.inr ⟨f', L, _, j9, j13, j14, j15, j17, v2, w2', b2, e, hL, eK, ef, eC, eE, rfl⟩
theorem m_conds {T : Nat → Int} {n : Nat} {r i10 i11 : Int32} {a1 b c : Nat → Int32} (hT : TXT T n) (hx : TXM T n i10 a1) (hg : i11.toInt = 0) : ∀ k, MPP T n r i10 a1 i11 b c k ∧ MCC T n r i10 a1 i11 b c k := by
  intro k
  induction k with
  | zero => exact ⟨fun _ _ _ _ _ _ _ _ _ _ _ _ _ _ _ _ _ _ _ h _ _ => by omega, fun _ _ _ _ _ _ _ _ _ _ _ _ _ _ _ _ _ _ h _ _ => by omega⟩
  | succ k ih => exact ⟨m_piece hT hx hg ih.1 ih.2, m_cond hT hx hg ih.1 ih.2⟩
/-- a condition in its brackets, from the one that opens on -/
def spC (T : Nat → Int) (p : Nat) : Int × Nat := seq (sp T 1000 3 1 (p + 1)) (fun q => if T q = 41 then (0, q + 1) else (-1000 - (q : Int), q))
theorem spC_ok {T : Nat → Int} {n p : Nat} (hT : TXT T n) (hp : p < n) : OKat n p (spC T p) := by
  have h160 := hT.1
  unfold spC
  rcases sp_ok hT 1000 3 1 (p + 1) (by omega) (by omega) (by omega) with ⟨s1, s2, s3⟩ | s
  · rw [seq_y s1]
    generalize (sp T 1000 3 1 (p + 1)).2 = q at s2 s3
    show OKat n p (if T q = 41 then (0, q + 1) else (-1000 - (q : Int), q))
    by_cases w : T q = 41
    · rw [if_pos w]
      have := T_in hT (p := q) (by omega)
      exact Or.inl ⟨rfl, by show p < q + 1; omega, this⟩
    · rw [if_neg w]; exact OK_bad (by omega) h160 s3
  · rw [seq_n s.1]; exact Or.inr s
def cmC (T : Nat → Int) (p : Nat) : List IN := cm T 1000 3 1 [] (p + 1)
theorem m_condition {T : Nat → Int} {n p : Nat} {r i9 i10 i11 i13 i17 : Int32} {a1 b c v w a : Nat → Int32} {E : List IN} (hT : TXT T n) (hx : TXM T n i10 a1) (hg : i11.toInt = 0) (h9 : i9.toInt = (p : Int)) (hc : T p = 40) (hC : CD r b c E (i13, v, w)) (hE : E.length ≤ p) :
    ((spC T p).1 < 0 ∧ (F_m12_condition r i9 i10 i11 i13 i17 a1 v w a).2.1.toInt = (spC T p).1 ∧ FRM r b c (cY (F_m12_condition r i9 i10 i11 i13 i17 a1 v w a))) ∨ ((spC T p).1 = 0 ∧ (F_m12_condition r i9 i10 i11 i13 i17 a1 v w a).1.toInt = ((spC T p).2 : Int) ∧ (F_m12_condition r i9 i10 i11 i13 i17 a1 v w a).2.1.toInt = 0 ∧ CD r b c (E ++ cmC T p) (cY (F_m12_condition r i9 i10 i11 i13 i17 a1 v w a)) ∧ (E ++ cmC T p).length ≤ (spC T p).2) := by
  have h160 := hT.1
  have hpn := T_in hT (p := p) (by omega)
  have hr := hr_of hT hx h9
  have e0 : F_m12_condition r i9 i10 i11 i13 i17 a1 v w a = f_m12_condition_j25 r i10 a1 1452001 1 (F_m12_opens i9 i10 i11 0 0 a1 a).1 (F_m12_opens i9 i10 i11 0 0 a1 a).2.1 i13 (F_m12_opens i9 i10 i11 0 0 a1 a).2.2.1 (F_m12_opens i9 i10 i11 0 0 a1 a).2.2.2.1 0 i17 v w (F_m12_opens i9 i10 i11 0 0 a1 a).2.2.2.2 := rfl
  rw [e0, op_o (by decide)]
  dsimp only
  rw [CL_1 (n := 1452000) hg]
  have hK : KP n p [] i9 0 0 a := ⟨h9, c0, c0, trivial, Nat.zero_le _, by omega⟩
  have hK2 := KP_push h160 hK hpn (show (F_m12_here i9 i10 a1).toInt = 40 by omega) (by omega)
  have hcn : cn (40 :: []) = 1 := cn_y (by omega)
  have H := (m_conds (r := r) (b := b) (c := c) hT hx hg 1000).2 (p + 1) 180 1452000 [] [] E _ _ _ _ _ _ _ AJ_n hK2 hC (by show E.length + 1 ≤ p + 1; omega) (by omega) (by omega) (by omega) (by omega)
  have H2 := sp_ok hT 1000 3 1 (p + 1) (by omega) (by omega) (by omega)
  rw [hcn] at H
  unfold spC
  rcases H with ⟨r1, r2, r3⟩ | ⟨r1, r0, H⟩
  · rw [seq_n r1]; exact Or.inl ⟨r1, r2, r3⟩
  · rw [seq_y r1]
    have hq : p + 1 < (sp T 1000 3 1 (p + 1)).2 ∧ (sp T 1000 3 1 (p + 1)).2 ≤ n := by
      rcases H2 with ⟨_, s2, s3⟩ | s
      · exact ⟨s2, s3⟩
      · omega
    generalize (sp T 1000 3 1 (p + 1)).2 = q at r0 H hq
    show ((if T q = 41 then (0, q + 1) else (-1000 - (q : Int), q) : Int × Nat).1 < 0 ∧ _) ∨ _
    rcases H with ⟨b1, b2, b3⟩ | ⟨f', L', E', j9, j13, j14, j15, j17, v2, w2, b2, e, eL, eK, ef, eC, eE, eW⟩
    · rw [if_neg b3]
      exact Or.inl ⟨by show -1000 - (q : Int) < 0; omega, b1, b2⟩
    · rw [e]
      obtain ⟨f', rfl⟩ : ∃ z, f' = z + 1 := ⟨f' - 1, by omega⟩
      by_cases w0 : T q = 41
      · rw [if_pos w0]
        have EE := GB_end (f := f') (i17 := j17) hT hx hg eL eK eC eE w0
        have hl1 := len_app (L := L') (h := 40) (S := [])
        have hel := em_len L'
        have hll : (E' ++ em L').length = E'.length + (em L').length := List.length_append
        have eW' : E' ++ em L' = E ++ cmC T p := eW
        rw [← eW']
        exact Or.inr ⟨rfl, EE.1, by rw [EE.2.1]; exact hg, EE.2.2, by show (E' ++ em L').length ≤ q + 1; omega⟩
      · rw [if_neg w0]
        have G := GB_bad (f := f') (i17 := j17) hT hx hg eK eC (by omega)
        exact Or.inl ⟨by show -1000 - (q : Int) < 0; omega, G.1, G.2⟩
/-- the same, read by the class -/
theorem x_condition {T : Nat → Int} {n p : Nat} {i12 y a b : Int32} {a1 : Nat → Int32} (hT : TXT T n) (hx : TXX T n i12 a1) (hy : y.toInt = ((p + 1 : Nat) : Int)) (hp : p < n) :
    XR (sp T 1000 3 1 (p + 1)) a b (G_x3_readCondition 6 1 i12 y a b a1) :=
  (x_all hT hx 1000 1000 (Nat.le_refl _) 1 6 rfl (Nat.le_refl _) (by omega)).2.2.2 (p + 1) 1 y a b c1 (by omega) hy (by have := hT.1; omega)
