/-! the reference's conditions -/
def GB (i10 : Int32) (a1 : Nat → Int32) (n : Nat) (i9 i11 i14 i15 i17 : Int32) (a : Nat → Int32) : P7 := f_m12_condition_b_142 i10 a1 0 (f_m12_condition_j25 i10 a1 n) i9 i11 i14 i15 i17 a
def CB (i10 : Int32) (a1 : Nat → Int32) (n : Nat) (t : P6) : P7 := if (F_m12_isGood t.2.1).toInt = 0 then f_m12_condition_b_141 1 0 (f_m12_condition_j25 i10 a1 n) t.1 t.2.1 t.2.2.1 t.2.2.2.1 t.2.2.2.2.1 t.2.2.2.2.2 else GB i10 a1 n t.1 t.2.1 t.2.2.1 t.2.2.2.1 t.2.2.2.2.1 t.2.2.2.2.2
def QP (i10 : Int32) (a1 : Nat → Int32) (m n : Nat) (i9 i11 i14 i15 : Int32) (a : Nat → Int32) : P7 := CB i10 a1 n (f_m12_piece_j1 i10 a1 m i9 i11 i14 i15 a)
def clt (i10 : Int32) (a1 : Nat → Int32) (n : Nat) (i17 : Int32) (t : P7) : P7 := f_m12_condition_j25 i10 a1 n t.1 t.2.1 t.2.2.1 t.2.2.2.1 t.2.2.2.2.1 t.2.2.2.2.2.1 i17 t.2.2.2.2.2.2
section MST
variable {i10 i9 i11 i14 i15 i16 i17 x c : Int32} {a1 a : Nat → Int32} {n m : Nat}
theorem CL_bad (h : i11.toInt ≠ 0) : (f_m12_condition_j25 i10 a1 (n + 1) x i9 i11 i14 i15 i16 i17 a).2.1 = i11 := by
  have e0 : f_m12_condition_j25 i10 a1 (n + 1) x i9 i11 i14 i15 i16 i17 a = if (F_m12_isGood i11).toInt = 0 then (i9, i11, i14, i15, i16, i17, a) else f_m12_condition_b_59 i10 a1 x i9 i11 i14 i15 i16 i17 a (f_m12_condition_j25 i10 a1 n) := rfl
  rw [e0, good0 h, if_pos y00]
theorem CL_1 (h : i11.toInt = 0) : f_m12_condition_j25 i10 a1 (n + 1) 1 i9 i11 i14 i15 0 i17 a = QP i10 a1 180 n i9 i11 i14 i15 a := by
  have e0 : f_m12_condition_j25 i10 a1 (n + 1) 1 i9 i11 i14 i15 0 i17 a = if (F_m12_isGood i11).toInt = 0 then (i9, i11, i14, i15, 0, i17, a) else if (0 : Int32).toInt ≠ 0 then (i9, i11, i14, i15, 0, i17, a) else if (1 : Int32).toInt = 0 then f_m12_condition_b_64 i10 a1 i9 i11 i14 i15 0 i17 a (f_m12_condition_j25 i10 a1 n) else QP i10 a1 180 n i9 i11 i14 i15 a := rfl
  rw [e0, good1 h, if_neg n10, if_neg n00, if_neg n10]
theorem CL_0 (h : i11.toInt = 0) : f_m12_condition_j25 i10 a1 (n + 1) 0 i9 i11 i14 i15 0 i17 a = GB i10 a1 n i9 i11 i14 i15 i17 a := by
  have e0 : f_m12_condition_j25 i10 a1 (n + 1) 0 i9 i11 i14 i15 0 i17 a = if (F_m12_isGood i11).toInt = 0 then (i9, i11, i14, i15, 0, i17, a) else if (0 : Int32).toInt ≠ 0 then (i9, i11, i14, i15, 0, i17, a) else if (0 : Int32).toInt = 0 then GB i10 a1 n i9 i11 i14 i15 i17 a else f_m12_condition_b_104 i10 a1 0 i9 i11 i14 i15 0 a (f_m12_condition_j25 i10 a1 n) := rfl
  rw [e0, good1 h, if_neg n10, if_neg n00, if_pos y00]
theorem CL_d (h : i11.toInt = 0) : f_m12_condition_j25 i10 a1 (n + 1) x i9 i11 i14 i15 1 i17 a = (i9, i11, i14, i15, 1, i17, a) := by
  have e0 : f_m12_condition_j25 i10 a1 (n + 1) x i9 i11 i14 i15 1 i17 a = if (F_m12_isGood i11).toInt = 0 then (i9, i11, i14, i15, 1, i17, a) else if (1 : Int32).toInt ≠ 0 then (i9, i11, i14, i15, 1, i17, a) else f_m12_condition_b_62 i10 a1 x i9 i11 i14 i15 1 i17 a (f_m12_condition_j25 i10 a1 n) := rfl
  rw [e0, good1 h, if_neg n10, if_pos y10]
theorem GB_e : GB i10 a1 n i9 i11 i14 i15 i17 a = clt i10 a1 n i17 (F_m12_goesBehind i9 i10 i11 i14 i15 0 a1 a) := rfl
theorem gb_j1 (hc : (F_m12_here i9 i10 a1).toInt = 38) : F_m12_goesBehind i9 i10 i11 i14 i15 i16 a1 a = ((1 : Int32), i9 + 1, i11, i14, F_m12_joins 0 i15 a + 1, i16, upd a (F_m12_joins 0 i15 a).toNatClampNeg (F_m12_here i9 i10 a1)) := by
  have e0 : F_m12_goesBehind i9 i10 i11 i14 i15 i16 a1 a = if (F_m12_here i9 i10 a1).toInt = 38 then (if (F_m12_here i9 i10 a1).toInt ≠ 124 then ((1 : Int32), i9 + 1, i11, i14, F_m12_joins 0 i15 a + 1, i16, upd a (F_m12_joins 0 i15 a).toNatClampNeg (F_m12_here i9 i10 a1)) else f_m12_goesBehind_b_50 i9 i11 i14 i15 i16 a (F_m12_here i9 i10 a1)) else f_m12_goesBehind_b_90 i9 i11 i14 i15 i16 a (F_m12_here i9 i10 a1) := rfl
  rw [e0, if_pos hc, if_pos (by omega)]
theorem gb_j2 (hc : (F_m12_here i9 i10 a1).toInt = 124) : F_m12_goesBehind i9 i10 i11 i14 i15 i16 a1 a = ((1 : Int32), i9 + 1, i11, i14, F_m12_joins 1 i15 a + 1, i16, upd a (F_m12_joins 1 i15 a).toNatClampNeg (F_m12_here i9 i10 a1)) := by
  have e0 : F_m12_goesBehind i9 i10 i11 i14 i15 i16 a1 a = if (F_m12_here i9 i10 a1).toInt = 38 then f_m12_goesBehind_b_89 i9 i11 i14 i15 i16 a (F_m12_here i9 i10 a1) else if (F_m12_here i9 i10 a1).toInt ≠ 124 then f_m12_goesBehind_b_92 i9 i11 i14 i15 i16 a (F_m12_here i9 i10 a1) else if (F_m12_here i9 i10 a1).toInt ≠ 124 then f_m12_goesBehind_b_12 i9 i11 i14 i15 i16 a (F_m12_here i9 i10 a1) else ((1 : Int32), i9 + 1, i11, i14, F_m12_joins 1 i15 a + 1, i16, upd a (F_m12_joins 1 i15 a).toNatClampNeg (F_m12_here i9 i10 a1)) := rfl
  rw [e0, if_neg (by omega), if_neg (by omega), if_neg (by omega)]
theorem gb_r (hc : (F_m12_here i9 i10 a1).toInt = 41) : F_m12_goesBehind i9 i10 i11 i14 i15 i16 a1 a = if (F_m12_joins 1 i15 a - 1).toInt ≠ 0 then ((0 : Int32), i9 + 1, i11, (F_m12_ends (i14 - 1) (F_m12_joins 1 i15 a - 1) a).1, (F_m12_ends (i14 - 1) (F_m12_joins 1 i15 a - 1) a).2, (0 : Int32), a) else ((0 : Int32), i9 + 1, i11, i14 - 1, F_m12_joins 1 i15 a - 1, (1 : Int32), a) := by
  have e0 : F_m12_goesBehind i9 i10 i11 i14 i15 i16 a1 a = if (F_m12_here i9 i10 a1).toInt = 38 then f_m12_goesBehind_b_89 i9 i11 i14 i15 i16 a (F_m12_here i9 i10 a1) else if (F_m12_here i9 i10 a1).toInt ≠ 124 then (if (F_m12_here i9 i10 a1).toInt = 41 then (if (F_m12_joins 1 i15 a - 1).toInt ≠ 0 then ((0 : Int32), i9 + 1, i11, (F_m12_ends (i14 - 1) (F_m12_joins 1 i15 a - 1) a).1, (F_m12_ends (i14 - 1) (F_m12_joins 1 i15 a - 1) a).2, (0 : Int32), a) else ((0 : Int32), i9 + 1, i11, i14 - 1, F_m12_joins 1 i15 a - 1, (1 : Int32), a)) else f_m12_goesBehind_b_154 i9 i11 i14 i15 i16 a) else f_m12_goesBehind_b_163 i9 i11 i14 i15 i16 a (F_m12_here i9 i10 a1) := rfl
  rw [e0, if_neg (by omega), if_pos (show (F_m12_here i9 i10 a1).toInt ≠ 124 by omega), if_pos hc]
theorem gb_x (h1 : (F_m12_here i9 i10 a1).toInt ≠ 38) (h2 : (F_m12_here i9 i10 a1).toInt ≠ 124) (h3 : (F_m12_here i9 i10 a1).toInt ≠ 41) : F_m12_goesBehind i9 i10 i11 i14 i15 i16 a1 a = ((0 : Int32), i9, F_m12_fails 1 i9 i11, i14, i15, i16, a) := by
  have e0 : F_m12_goesBehind i9 i10 i11 i14 i15 i16 a1 a = if (F_m12_here i9 i10 a1).toInt = 38 then f_m12_goesBehind_b_89 i9 i11 i14 i15 i16 a (F_m12_here i9 i10 a1) else if (F_m12_here i9 i10 a1).toInt ≠ 124 then (if (F_m12_here i9 i10 a1).toInt = 41 then f_m12_goesBehind_b_94 i9 i11 i14 i15 a else ((0 : Int32), i9, F_m12_fails 1 i9 i11, i14, i15, i16, a)) else f_m12_goesBehind_b_163 i9 i11 i14 i15 i16 a (F_m12_here i9 i10 a1) := rfl
  rw [e0, if_neg h1, if_pos h2, if_neg h3]
theorem CB_bad {t : P6} (h : t.2.1.toInt ≠ 0) : (CB i10 a1 (n + 1) t).2.1 = t.2.1 := by
  unfold CB
  rw [good0 h, if_pos y00]
  exact CL_bad h
theorem CB_good {t : P6} (h : t.2.1.toInt = 0) : CB i10 a1 n t = GB i10 a1 n t.1 t.2.1 t.2.2.1 t.2.2.2.1 t.2.2.2.2.1 t.2.2.2.2.2 := by
  unfold CB
  rw [good1 h, if_neg n10]
theorem pp_e : f_m12_piece_j1 i10 a1 (m + 1) i9 i11 i14 i15 a = if (F_m12_isGood i11).toInt = 0 then f_m12_piece_b_22 i10 a1 i9 i11 i14 i15 a else if (F_m12_here i9 i10 a1).toInt = 33 then f_m12_piece_j1 i10 a1 m (F_m12_opens i9 i10 i11 i14 i15 a1 a).1 (F_m12_opens i9 i10 i11 i14 i15 a1 a).2.1 (F_m12_opens i9 i10 i11 i14 i15 a1 a).2.2.1 (F_m12_opens i9 i10 i11 i14 i15 a1 a).2.2.2.1 (F_m12_opens i9 i10 i11 i14 i15 a1 a).2.2.2.2 else if (F_m12_here i9 i10 a1).toInt ≠ 40 then f_m12_piece_b_227 i10 a1 i9 i11 i14 i15 a else f_m12_piece_j1 i10 a1 m (F_m12_opens i9 i10 i11 i14 i15 a1 a).1 (F_m12_opens i9 i10 i11 i14 i15 a1 a).2.1 (F_m12_opens i9 i10 i11 i14 i15 a1 a).2.2.1 (F_m12_opens i9 i10 i11 i14 i15 a1 a).2.2.2.1 (F_m12_opens i9 i10 i11 i14 i15 a1 a).2.2.2.2 := rfl
theorem pp_open (hg : i11.toInt = 0) (hc : (F_m12_here i9 i10 a1).toInt = 33 ∨ (F_m12_here i9 i10 a1).toInt = 40) : f_m12_piece_j1 i10 a1 (m + 1) i9 i11 i14 i15 a = f_m12_piece_j1 i10 a1 m (F_m12_opens i9 i10 i11 i14 i15 a1 a).1 (F_m12_opens i9 i10 i11 i14 i15 a1 a).2.1 (F_m12_opens i9 i10 i11 i14 i15 a1 a).2.2.1 (F_m12_opens i9 i10 i11 i14 i15 a1 a).2.2.2.1 (F_m12_opens i9 i10 i11 i14 i15 a1 a).2.2.2.2 := by
  rw [pp_e, good1 hg, if_neg n10]
  by_cases w : (F_m12_here i9 i10 a1).toInt = 33
  · rw [if_pos w]
  · rw [if_neg w, if_neg (by omega)]
theorem pp_o (hg : i11.toInt = 0) (hc : (F_m12_here i9 i10 a1).toInt = 33 ∨ (F_m12_here i9 i10 a1).toInt = 40) (h : i14.toInt ≠ 6) : f_m12_piece_j1 i10 a1 (m + 1) i9 i11 i14 i15 a = f_m12_piece_j1 i10 a1 m (i9 + 1) i11 (i14 + 1) (i15 + 1) (upd a i15.toNatClampNeg (F_m12_here i9 i10 a1)) := by
  rw [pp_open hg hc, op_o h]
theorem pp_6 (hg : i11.toInt = 0) (hc : (F_m12_here i9 i10 a1).toInt = 33 ∨ (F_m12_here i9 i10 a1).toInt = 40) (h : i14.toInt = 6) (h9 : 0 ≤ i9.toInt ∧ i9.toInt ≤ 1000) : (f_m12_piece_j1 i10 a1 (m + 2) i9 i11 i14 i15 a).2.1.toInt = -5000 - i9.toInt := by
  have c5 : (5 : Int32).toInt = 5 := by decide
  have eb := fl0 (f := 5) (a := i9) hg (by omega) h9
  rw [pp_open hg hc, op_6 h]
  dsimp only
  rw [pp_e, good0 (by omega), if_pos y00]
  have e0 : f_m12_piece_b_22 i10 a1 (i9 + 1) (F_m12_fails 5 i9 i11) (i14 + 1) (i15 + 1) (upd a i15.toNatClampNeg (F_m12_here i9 i10 a1)) = if (1 : Int32).toInt = 0 then f_m12_piece_b_49 (i9 + 1) (F_m12_fails 5 i9 i11) (i14 + 1) (i15 + 1) 0 (upd a i15.toNatClampNeg (F_m12_here i9 i10 a1)) else if (F_m12_isGood (F_m12_fails 5 i9 i11)).toInt = 0 then (i9 + 1, F_m12_fails 5 i9 i11, i14 + 1, i15 + 1, 0, upd a i15.toNatClampNeg (F_m12_here i9 i10 a1)) else f_m12_piece_b_95 i10 a1 (i9 + 1) (F_m12_fails 5 i9 i11) (i14 + 1) (i15 + 1) 0 (upd a i15.toNatClampNeg (F_m12_here i9 i10 a1)) (f_m12_piece_j23 i10 a1 2893999) := rfl
  rw [e0, if_neg n10, good0 (by omega), if_pos y00]
  show (F_m12_fails 5 i9 i11).toInt = _
  omega
theorem pp_a (hg : i11.toInt = 0) (h1 : (F_m12_here i9 i10 a1).toInt ≠ 33) (h2 : (F_m12_here i9 i10 a1).toInt ≠ 40) : f_m12_piece_j1 i10 a1 (m + 1) i9 i11 i14 i15 a = FXa i10 a1 180 2894001 i9 i11 i14 i15 a := by
  rw [pp_e, good1 hg, if_neg n10, if_neg h1, if_pos h2]
  exact PL_1 (n := 2894001) hg
end MST
/-- E, a comparison, E -/
theorem m_cmp {T : Nat → Int} {n k : Nat} {i10 i11 : Int32} {a1 : Nat → Int32} (hT : TXT T n) (hx : TXM T n i10 a1) (hg : i11.toInt = 0) {p f : Nat} {h : Int} {S : List Int} {i9 i14 i15 : Int32} {a : Nat → Int32} (hh : h = 33 ∨ h = 40 ∨ h = 38 ∨ h = 124) (hK : KP n p (h :: S) i9 i14 i15 a) (h6 : cn (h :: S) ≤ 6) (h1 : 1 ≤ cn (h :: S)) (hk : 4 * (n + 1 - p) + 1 < k) (hf : 400 ≤ f + p) {r : Int × Nat}
    (er : r = seq (sp T k 1 (cn (h :: S)) p) (fun q => if T q = 60 ∨ T q = 62 ∨ T q = 61 then sp T k 1 (cn (h :: S)) (q + 1) else (-1000 - (q : Int), q))) :
    (r.1 < 0 ∧ (FXa i10 a1 180 f i9 i11 i14 i15 a).2.1.toInt = r.1) ∨ (r.1 = 0 ∧ (((FXa i10 a1 180 f i9 i11 i14 i15 a).2.1.toInt = -1000 - (r.2 : Int) ∧ ¬ (T r.2 = 38 ∨ T r.2 = 124 ∨ T r.2 = 41)) ∨ ∃ (j9 j14 j15 j17 : Int32) (b : Nat → Int32), FXa i10 a1 180 f i9 i11 i14 i15 a = (j9, i11, j14, j15, j17, b) ∧ KP n r.2 (dB (h :: S)) j9 j14 j15 b)) := by
  have h160 := hT.1
  have c1' := c1
  subst er
  have H := (m_sums hT hx hg k).1 p 180 f h [] S i9 i14 i15 a (by intro z; omega) AO_n hK h6 h1 hk (by omega) hf
  have H2 := sp_ok hT k 1 (cn (h :: S)) p (by omega) hK.2.2.2.2.2 hk
  rcases H with ⟨r1, r2⟩ | ⟨r1, r2, f2, L, j9, j14, j15, b, e, eL, eK, ef⟩
  · rw [seq_n r1]; exact Or.inl ⟨r1, r2⟩
  · rw [seq_y r1, e]
    have hq : p < (sp T k 1 (cn (h :: S)) p).2 ∧ (sp T k 1 (cn (h :: S)) p).2 ≤ n := by
      rcases H2 with ⟨_, s2, s3⟩ | s
      · exact ⟨s2, s3⟩
      · omega
    generalize (sp T k 1 (cn (h :: S)) p).2 = q at r2 eK ef hq
    obtain ⟨q1, q2, q3, q4, q5, q6⟩ := eK
    have hr2 := hr_of hT hx q1
    have r2' : ¬ (T q = 42 ∨ T q = 47 ∨ T q = 37 ∨ T q = 43 ∨ T q = 45) := r2
    have hl1 := len_app (L := L) (h := h) (S := S)
    obtain ⟨L', g1, g2, g3, g4, g5⟩ := sums_of (p0 := 1) (h := h) (by intro z; omega) eL (by omega) q3 q4
    have g5 := g5 y10
    subst g5
    have g3 : (F_m12_sums 1 j15 b).toInt = ((S.length + 1 : Nat) : Int) := g3
    have ht := tp_c g3 g4 (by omega)
    rw [cn_ao eL] at q2
    obtain ⟨f2, rfl⟩ : ∃ q, f2 = q + 1 := ⟨f2 - 1, by omega⟩
    have eb := fl0 (f := 1) (a := j9) hg (by omega) (by omega)
    rw [GO_good hg, go_nop (by intro z; omega)]
    show ((if T q = 60 ∨ T q = 62 ∨ T q = 61 then sp T k 1 (cn (h :: S)) (q + 1) else (-1000 - (q : Int), q)).1 < 0 ∧ _) ∨ _
    by_cases w : T q = 60 ∨ T q = 62 ∨ T q = 61
    · rw [if_pos w]
      have hqn := T_in hT (p := q) (by omega)
      have hsg : (F_m12_isSign (F_m12_top (F_m12_sums 1 j15 b) b)).toInt = 0 := by
        rcases sig (v := F_m12_top (F_m12_sums 1 j15 b) b) with ⟨z, e⟩ | ⟨z, e⟩
        · omega
        · rw [e]; exact y00
      rw [g59_sg (by omega), if_neg (by omega)]
      unfold plt
      rw [if_neg n10]
      dsimp only
      rw [PL_1 hg]
      have hK2 : KP n (q + 1) (T q :: h :: S) (j9 + 1) j14 (F_m12_sums 1 j15 b + 1) (upd b (F_m12_sums 1 j15 b).toNatClampNeg (F_m12_here j9 i10 a1)) := KP_put h160 q1 q2 g3 g4 (by show S.length + 1 ≤ q; omega) hqn hr2 (by omega)
      have hc : cn (T q :: h :: S) = cn (h :: S) := cn_n (by omega)
      have H := (m_sums hT hx hg k).1 (q + 1) 180 f2 (T q) [] (h :: S) _ _ _ _ (by intro z; omega) AO_n hK2 (by omega) (by omega) (by omega) (by omega) (by omega)
      have H2 := sp_ok hT k 1 (cn (h :: S)) (q + 1) (by omega) (by omega) (by omega)
      rw [hc] at H
      rcases H with ⟨r1, r2⟩ | ⟨r1, r3, f3, M, l9, l14, l15, b2, e2, eL2, eK2, ef2⟩
      · exact Or.inl ⟨r1, r2⟩
      · rw [e2]
        refine Or.inr ⟨r1, ?_⟩
        have hq2 : q + 1 < (sp T k 1 (cn (h :: S)) (q + 1)).2 ∧ (sp T k 1 (cn (h :: S)) (q + 1)).2 ≤ n := by
          rcases H2 with ⟨_, s2, s3⟩ | s
          · exact ⟨s2, s3⟩
          · omega
        generalize (sp T k 1 (cn (h :: S)) (q + 1)).2 = z at r3 eK2 ef2 hq2
        obtain ⟨z1, z2, z3, z4, z5, z6⟩ := eK2
        have hr3 := hr_of hT hx z1
        have r3' : ¬ (T z = 42 ∨ T z = 47 ∨ T z = 37 ∨ T z = 43 ∨ T z = 45) := r3
        have hl2 := len_app (L := M) (h := T q) (S := h :: S)
        have hl3 : (h :: S).length = S.length + 1 := rfl
        obtain ⟨L2, v1, v2, v3, v4, v5⟩ := sums_of (p0 := 1) (h := T q) (by intro z; omega) eL2 (by omega) z3 z4
        have v5 := v5 y10
        subst v5
        have v3 : (F_m12_sums 1 l15 b2).toInt = (((h :: S).length + 1 : Nat) : Int) := v3
        have ht2 := tp_c v3 v4 (by omega)
        rw [cn_ao eL2, hc] at z2
        obtain ⟨f3, rfl⟩ : ∃ q, f3 = q + 1 := ⟨f3 - 1, by omega⟩
        have eb2 := fl0 (f := 1) (a := l9) hg (by omega) (by omega)
        have hsg2 : (F_m12_isSign (F_m12_top (F_m12_sums 1 l15 b2) b2)).toInt = 1 := by
          rcases sig (v := F_m12_top (F_m12_sums 1 l15 b2) b2) with ⟨z, e⟩ | ⟨z, e⟩
          · rw [e]; exact c1
          · omega
        rw [GO_good hg, go_nop (by intro y; omega)]
        by_cases w3 : T z = 93
        · left
          rw [g59_rb (by omega), if_neg (by omega)]
          unfold plt
          rw [if_pos y00]
          dsimp only
          rw [PL_bad (by omega)]
          exact ⟨by omega, by omega⟩
        · by_cases w4 : T z = 60 ∨ T z = 62 ∨ T z = 61
          · left
            rw [g59_sg (by omega), if_pos (Or.inr (by omega))]
            unfold plt
            rw [if_neg n10]
            dsimp only
            rw [PL_bad (by omega)]
            exact ⟨by omega, by omega⟩
          · right
            rw [g59_el (by omega) (by omega), if_neg (by omega)]
            unfold plt
            rw [if_pos y00]
            dsimp only
            rw [PL_0 hg]
            have E := ends_of (S := h :: S) (d := F_m12_sums 1 l15 b2 - 1) (o := l14) (by omega) (pred_of v3 (by omega)) z2 v4.2
            have hd := dB_l (h :: S)
            exact ⟨l9, _, _, 0, b2, rfl, z1, E.1, E.2.1, E.2.2, by omega, by omega⟩
    · rw [if_neg w]
      refine Or.inl ⟨by show -1000 - (q : Int) < 0; omega, ?_⟩
      show _ = -1000 - (q : Int)
      by_cases w3 : T q = 93
      · rw [g59_rb (by omega), if_neg (by omega)]
        unfold plt
        rw [if_pos y00]
        dsimp only
        rw [PL_bad (by omega)]; omega
      · rw [g59_el (by omega) (by omega)]
        rcases sig (v := F_m12_top (F_m12_sums 1 j15 b) b) with ⟨z, e⟩ | ⟨z, e⟩
        · omega
        · rw [e, if_pos y00]
          unfold plt
          rw [if_pos y00]
          dsimp only
          rw [PL_bad (by omega)]; omega
section GBS
variable {T : Nat → Int} {n q f : Nat} {i10 i11 i9 i14 i15 i17 : Int32} {a1 a : Nat → Int32} {L B : List Int}
theorem GB_and (hT : TXT T n) (hx : TXM T n i10 a1) (hg : i11.toInt = 0) (hL : AJ L) (hK : KP n q (L ++ 40 :: B) i9 i14 i15 a) (hc : T q = 38 ∨ T q = 124) : ∃ (L' : List Int) (j9 j15 : Int32) (b : Nat → Int32), GB i10 a1 (f + 1) i9 i11 i14 i15 i17 a = QP i10 a1 180 f j9 i11 i14 j15 b ∧ AJ L' ∧ KP n (q + 1) (L' ++ 40 :: B) j9 i14 j15 b := by
  have h160 := hT.1
  obtain ⟨q1, q2, q3, q4, q5, q6⟩ := hK
  have hr := hr_of hT hx q1
  have hqn := T_in hT (p := q) (by omega)
  have hl1 := len_app (L := L) (h := 40) (S := B)
  rw [cn_aj hL] at q2
  rcases hc with hc | hc
  · obtain ⟨L', g1, g2, g3, g4, g5⟩ := joins_of (p0 := 0) hL (by omega) q3 q4
    have hl2 := len_app (L := L') (h := 40) (S := B)
    refine ⟨38 :: L', i9 + 1, F_m12_joins 0 i15 a + 1, upd a (F_m12_joins 0 i15 a).toNatClampNeg (F_m12_here i9 i10 a1), ?_, AJ_c (by omega) g1, KP_put (S := L' ++ 40 :: B) h160 q1 (by rw [cn_aj g1]; exact q2) g3 g4 (by omega) hqn (by omega) (by omega)⟩
    rw [GB_e, gb_j1 (by omega)]
    exact CL_1 hg
  · obtain ⟨L', g1, g2, g3, g4, g5⟩ := joins_of (p0 := 1) hL (by omega) q3 q4
    have hl2 := len_app (L := L') (h := 40) (S := B)
    refine ⟨124 :: L', i9 + 1, F_m12_joins 1 i15 a + 1, upd a (F_m12_joins 1 i15 a).toNatClampNeg (F_m12_here i9 i10 a1), ?_, AJ_c (by omega) g1, KP_put (S := L' ++ 40 :: B) h160 q1 (by rw [cn_aj g1]; exact q2) g3 g4 (by omega) hqn (by omega) (by omega)⟩
    rw [GB_e, gb_j2 (by omega)]
    exact CL_1 hg
theorem GB_bad (hT : TXT T n) (hx : TXM T n i10 a1) (hg : i11.toInt = 0) {S : List Int} (hK : KP n q S i9 i14 i15 a) (hc : ¬ (T q = 38 ∨ T q = 124 ∨ T q = 41)) : (GB i10 a1 (f + 1) i9 i11 i14 i15 i17 a).2.1.toInt = -1000 - (q : Int) := by
  have h160 := hT.1
  have c1' := c1
  obtain ⟨q1, q2, q3, q4, q5, q6⟩ := hK
  have hr := hr_of hT hx q1
  have eb := fl0 (f := 1) (a := i9) hg (by omega) (by omega)
  rw [GB_e, gb_x (by omega) (by omega) (by omega)]
  show (f_m12_condition_j25 i10 a1 (f + 1) 0 i9 (F_m12_fails 1 i9 i11) i14 i15 0 i17 a).2.1.toInt = _
  rw [CL_bad (by omega)]; omega
theorem GB_close {h : Int} {S : List Int} (hT : TXT T n) (hx : TXM T n i10 a1) (hg : i11.toInt = 0) (hL : AJ L) (hK : KP n q (L ++ 40 :: (h :: S)) i9 i14 i15 a) (hc : T q = 41) : ∃ (j9 j14 j15 : Int32), GB i10 a1 (f + 1) i9 i11 i14 i15 i17 a = GB i10 a1 f j9 i11 j14 j15 i17 a ∧ KP n (q + 1) (dB (h :: S)) j9 j14 j15 a := by
  have h160 := hT.1
  obtain ⟨q1, q2, q3, q4, q5, q6⟩ := hK
  have hr := hr_of hT hx q1
  have hqn := T_in hT (p := q) (by omega)
  have hl1 := len_app (L := L) (h := 40) (S := h :: S)
  have hl3 : (h :: S).length = S.length + 1 := rfl
  have hcl := cn_l (h :: S)
  rw [cn_aj hL, cn_y (by omega)] at q2
  obtain ⟨L', g1, g2, g3, g4, g5⟩ := joins_of (p0 := 1) hL (by omega) q3 q4
  have g5 := g5 y10
  subst g5
  have g3 : (F_m12_joins 1 i15 a).toInt = (((h :: S).length + 1 : Nat) : Int) := g3
  have d1 := pred_of g3 (by omega)
  have d2 := pred_of q2 (by omega)
  have E := ends_of (S := h :: S) (by omega) d1 d2 g4.2
  have hd := dB_l (h :: S)
  refine ⟨i9 + 1, _, _, ?_, suc_of q1 (by omega), E.1, E.2.1, E.2.2, by omega, hqn⟩
  rw [GB_e, gb_r (by omega), if_pos (by omega)]
  exact CL_0 hg
theorem GB_end (hT : TXT T n) (hx : TXM T n i10 a1) (hg : i11.toInt = 0) (hL : AJ L) (hK : KP n q (L ++ 40 :: []) i9 i14 i15 a) (hc : T q = 41) : (GB i10 a1 (f + 1) i9 i11 i14 i15 i17 a).1.toInt = ((q + 1 : Nat) : Int) ∧ (GB i10 a1 (f + 1) i9 i11 i14 i15 i17 a).2.1 = i11 := by
  have h160 := hT.1
  obtain ⟨q1, q2, q3, q4, q5, q6⟩ := hK
  have hr := hr_of hT hx q1
  have hl1 := len_app (L := L) (h := 40) (S := [])
  have hl3 : ([] : List Int).length = 0 := rfl
  obtain ⟨L', g1, g2, g3, g4, g5⟩ := joins_of (p0 := 1) hL (by omega) q3 q4
  have g5 := g5 y10
  subst g5
  have g3 : (F_m12_joins 1 i15 a).toInt = ((0 + 1 : Nat) : Int) := g3
  have d1 := pred_of g3 (by omega)
  rw [GB_e, gb_r (by omega), if_neg (by omega)]
  have e : clt i10 a1 (f + 1) i17 ((0 : Int32), i9 + 1, i11, i14 - 1, F_m12_joins 1 i15 a - 1, (1 : Int32), a) = (i9 + 1, i11, i14 - 1, F_m12_joins 1 i15 a - 1, (1 : Int32), i17, a) := CL_d hg
  rw [e]
  exact ⟨suc_of q1 (by omega), rfl⟩
end GBS
def MPP (T : Nat → Int) (n : Nat) (i10 : Int32) (a1 : Nat → Int32) (i11 : Int32) (k : Nat) : Prop := ∀ (p m f : Nat) (h : Int) (S : List Int) (i9 i14 i15 : Int32) (a : Nat → Int32), (h = 33 ∨ h = 40 ∨ h = 38 ∨ h = 124) → KP n p (h :: S) i9 i14 i15 a → cn (h :: S) ≤ 6 → 1 ≤ cn (h :: S) → 4 * (n + 1 - p) + 2 < k → 170 ≤ m + p → 400 ≤ f + p →
  ((sp T k 2 (cn (h :: S)) p).1 < 0 ∧ (QP i10 a1 m f i9 i11 i14 i15 a).2.1.toInt = (sp T k 2 (cn (h :: S)) p).1) ∨ ((sp T k 2 (cn (h :: S)) p).1 = 0 ∧ (((QP i10 a1 m f i9 i11 i14 i15 a).2.1.toInt = -1000 - ((sp T k 2 (cn (h :: S)) p).2 : Int) ∧ ¬ (T (sp T k 2 (cn (h :: S)) p).2 = 38 ∨ T (sp T k 2 (cn (h :: S)) p).2 = 124 ∨ T (sp T k 2 (cn (h :: S)) p).2 = 41)) ∨ ∃ (f' : Nat) (j9 j14 j15 j17 : Int32) (b : Nat → Int32), QP i10 a1 m f i9 i11 i14 i15 a = GB i10 a1 f' j9 i11 j14 j15 j17 b ∧ KP n (sp T k 2 (cn (h :: S)) p).2 (dB (h :: S)) j9 j14 j15 b ∧ 400 ≤ f' + (sp T k 2 (cn (h :: S)) p).2))
def MCC (T : Nat → Int) (n : Nat) (i10 : Int32) (a1 : Nat → Int32) (i11 : Int32) (k : Nat) : Prop := ∀ (p m f : Nat) (L B : List Int) (i9 i14 i15 : Int32) (a : Nat → Int32), AJ L → KP n p (L ++ 40 :: B) i9 i14 i15 a → cn (40 :: B) ≤ 6 → 4 * (n + 1 - p) + 3 < k → 170 ≤ m + p → 400 ≤ f + p →
  ((sp T k 3 (cn (40 :: B)) p).1 < 0 ∧ (QP i10 a1 m f i9 i11 i14 i15 a).2.1.toInt = (sp T k 3 (cn (40 :: B)) p).1) ∨ ((sp T k 3 (cn (40 :: B)) p).1 = 0 ∧ ¬ (T (sp T k 3 (cn (40 :: B)) p).2 = 38 ∨ T (sp T k 3 (cn (40 :: B)) p).2 = 124) ∧ (((QP i10 a1 m f i9 i11 i14 i15 a).2.1.toInt = -1000 - ((sp T k 3 (cn (40 :: B)) p).2 : Int) ∧ T (sp T k 3 (cn (40 :: B)) p).2 ≠ 41) ∨ ∃ (f' : Nat) (L' : List Int) (j9 j14 j15 j17 : Int32) (b : Nat → Int32), QP i10 a1 m f i9 i11 i14 i15 a = GB i10 a1 f' j9 i11 j14 j15 j17 b ∧ AJ L' ∧ KP n (sp T k 3 (cn (40 :: B)) p).2 (L' ++ 40 :: B) j9 j14 j15 b ∧ 400 ≤ f' + (sp T k 3 (cn (40 :: B)) p).2))
theorem m_piece {T : Nat → Int} {n k : Nat} {i10 i11 : Int32} {a1 : Nat → Int32} (hT : TXT T n) (hx : TXM T n i10 a1) (hg : i11.toInt = 0) (ih : MPP T n i10 a1 i11 k) (ihc : MCC T n i10 a1 i11 k) : MPP T n i10 a1 i11 (k + 1) := by
  have h160 := hT.1
  intro p m f h S i9 i14 i15 a hh hK h6 h1 hk hm hf
  have hK0 := hK
  obtain ⟨k1, k2, k3, k4, k5, k6⟩ := hK
  have hr := hr_of hT hx k1
  obtain ⟨m, rfl⟩ : ∃ q, m = q + 2 := ⟨m - 2, by omega⟩
  obtain ⟨f, rfl⟩ : ∃ q, f = q + 1 := ⟨f - 1, by omega⟩
  rw [sp_2]
  by_cases h33 : T p = 33
  · rw [if_pos h33]
    have hpn := T_in hT (p := p) (by omega)
    by_cases ho : 6 ≤ cn (h :: S)
    · rw [if_pos ho]
      have e6 := pp_6 (m := m) (a := a) (i15 := i15) hg (Or.inl (show (F_m12_here i9 i10 a1).toInt = 33 by omega)) (show i14.toInt = 6 by omega) (by omega)
      refine Or.inl ⟨by show -5000 - (p : Int) < 0; omega, ?_⟩
      unfold QP
      rw [CB_bad (by omega)]; show _ = -5000 - (p : Int); omega
    · rw [if_neg ho]
      have hc : cn (33 :: h :: S) = cn (h :: S) + 1 := cn_y (by omega)
      have hK2 := KP_push h160 hK0 hpn (show (F_m12_here i9 i10 a1).toInt = 33 by omega) (by omega)
      have H := ih (p + 1) (m + 1) (f + 1) 33 (h :: S) _ _ _ _ (by omega) hK2 (by omega) (by omega) (by omega) (by omega) (by omega)
      rw [hc, dB_y] at H
      have e : QP i10 a1 (m + 2) (f + 1) i9 i11 i14 i15 a = QP i10 a1 (m + 1) (f + 1) (i9 + 1) i11 (i14 + 1) (i15 + 1) (upd a i15.toNatClampNeg (F_m12_here i9 i10 a1)) := by
        unfold QP
        rw [pp_o hg (Or.inl (by omega)) (by omega)]
      rw [e]; exact H
  · rw [if_neg h33]
    by_cases h40 : T p = 40
    · rw [if_pos h40]
      have hpn := T_in hT (p := p) (by omega)
      by_cases ho : 6 ≤ cn (h :: S)
      · rw [if_pos ho]
        have e6 := pp_6 (m := m) (a := a) (i15 := i15) hg (Or.inr (show (F_m12_here i9 i10 a1).toInt = 40 by omega)) (show i14.toInt = 6 by omega) (by omega)
        refine Or.inl ⟨by show -5000 - (p : Int) < 0; omega, ?_⟩
        unfold QP
        rw [CB_bad (by omega)]; show _ = -5000 - (p : Int); omega
      · rw [if_neg ho]
        have hc : cn (40 :: h :: S) = cn (h :: S) + 1 := cn_y (by omega)
        have hK2 := KP_push h160 hK0 hpn (show (F_m12_here i9 i10 a1).toInt = 40 by omega) (by omega)
        have H := ihc (p + 1) (m + 1) (f + 1) [] (h :: S) _ _ _ _ AJ_n hK2 (by omega) (by omega) (by omega) (by omega)
        have H2 := sp_ok hT k 3 (cn (h :: S) + 1) (p + 1) (by omega) (by omega) (by omega)
        rw [hc] at H
        have e : QP i10 a1 (m + 2) (f + 1) i9 i11 i14 i15 a = QP i10 a1 (m + 1) (f + 1) (i9 + 1) i11 (i14 + 1) (i15 + 1) (upd a i15.toNatClampNeg (F_m12_here i9 i10 a1)) := by
          unfold QP
          rw [pp_o hg (Or.inr (by omega)) (by omega)]
        rw [e]
        rcases H with ⟨r1, r2⟩ | ⟨r1, r0, H⟩
        · rw [seq_n r1]; exact Or.inl ⟨r1, r2⟩
        · rw [seq_y r1]
          have hq : p + 1 < (sp T k 3 (cn (h :: S) + 1) (p + 1)).2 ∧ (sp T k 3 (cn (h :: S) + 1) (p + 1)).2 ≤ n := by
            rcases H2 with ⟨_, s2, s3⟩ | s
            · exact ⟨s2, s3⟩
            · omega
          generalize (sp T k 3 (cn (h :: S) + 1) (p + 1)).2 = q at r0 H hq
          show ((if T q = 41 then (0, q + 1) else (-1000 - (q : Int), q) : Int × Nat).1 < 0 ∧ _) ∨ _
          rcases H with ⟨b1, b2⟩ | ⟨f', L', j9, j14, j15, j17, b, e, eL, eK, ef⟩
          · rw [if_neg b2]
            exact Or.inl ⟨by show -1000 - (q : Int) < 0; omega, b1⟩
          · rw [e]
            obtain ⟨f', rfl⟩ : ∃ z, f' = z + 1 := ⟨f' - 1, by omega⟩
            by_cases w : T q = 41
            · rw [if_pos w]
              obtain ⟨l9, l14, l15, e2, eK2⟩ := GB_close (f := f') (i17 := j17) hT hx hg eL eK w
              exact Or.inr ⟨rfl, Or.inr ⟨f', l9, l14, l15, j17, b, e2, eK2, by show 400 ≤ f' + (q + 1); omega⟩⟩
            · rw [if_neg w]
              exact Or.inl ⟨by show -1000 - (q : Int) < 0; omega, GB_bad hT hx hg eK (by omega)⟩
    · rw [if_neg h40]
      have H := m_cmp (i9 := i9) (i14 := i14) (i15 := i15) (a := a) (f := 2894001) hT hx hg hh hK0 h6 h1 (k := k) (by omega) (by omega) rfl
      have e : QP i10 a1 (m + 2) (f + 1) i9 i11 i14 i15 a = CB i10 a1 (f + 1) (FXa i10 a1 180 2894001 i9 i11 i14 i15 a) := by
        unfold QP
        rw [pp_a hg (by omega) (by omega)]
      rw [e]
      have H2 := sp_ok hT (k + 1) 2 (cn (h :: S)) p (by omega) k6 hk
      rw [sp_2, if_neg h33, if_neg h40] at H2
      generalize seq (sp T k 1 (cn (h :: S)) p) (fun q => if T q = 60 ∨ T q = 62 ∨ T q = 61 then sp T k 1 (cn (h :: S)) (q + 1) else (-1000 - (q : Int), q)) = r at H H2
      rcases H with ⟨r1, r2⟩ | ⟨r1, H⟩
      · exact Or.inl ⟨r1, by rw [CB_bad (by omega)]; exact r2⟩
      · refine Or.inr ⟨r1, ?_⟩
        rcases H with ⟨b1, b2⟩ | ⟨j9, j14, j15, j17, b, e2, eK⟩
        · exact Or.inl ⟨by rw [CB_bad (by omega)]; exact b1, b2⟩
        · refine Or.inr ⟨f + 1, j9, j14, j15, j17, b, ?_, eK, ?_⟩
          · rw [e2, CB_good hg]
          · rcases H2 with ⟨_, s2, s3⟩ | s
            · omega
            · omega
theorem m_cond {T : Nat → Int} {n k : Nat} {i10 i11 : Int32} {a1 : Nat → Int32} (hT : TXT T n) (hx : TXM T n i10 a1) (hg : i11.toInt = 0) (ih : MPP T n i10 a1 i11 k) (ihc : MCC T n i10 a1 i11 k) : MCC T n i10 a1 i11 (k + 1) := by
  have h160 := hT.1
  intro p m f L B i9 i14 i15 a hL hK h6 hk hm hf
  have k6 := hK.2.2.2.2.2
  have hcB : cn (40 :: B) = cn B + 1 := cn_y (by omega)
  rw [sp_3]
  have H2 := sp_ok hT k 2 (cn (40 :: B)) p (by omega) k6 (by omega)
  have H : ((sp T k 2 (cn (40 :: B)) p).1 < 0 ∧ (QP i10 a1 m f i9 i11 i14 i15 a).2.1.toInt = (sp T k 2 (cn (40 :: B)) p).1) ∨ ((sp T k 2 (cn (40 :: B)) p).1 = 0 ∧ (((QP i10 a1 m f i9 i11 i14 i15 a).2.1.toInt = -1000 - ((sp T k 2 (cn (40 :: B)) p).2 : Int) ∧ ¬ (T (sp T k 2 (cn (40 :: B)) p).2 = 38 ∨ T (sp T k 2 (cn (40 :: B)) p).2 = 124 ∨ T (sp T k 2 (cn (40 :: B)) p).2 = 41)) ∨ ∃ (f' : Nat) (j9 j14 j15 j17 : Int32) (b : Nat → Int32), QP i10 a1 m f i9 i11 i14 i15 a = GB i10 a1 f' j9 i11 j14 j15 j17 b ∧ KP n (sp T k 2 (cn (40 :: B)) p).2 (L ++ 40 :: B) j9 j14 j15 b ∧ 400 ≤ f' + (sp T k 2 (cn (40 :: B)) p).2)) := by
    cases L with
    | nil =>
      have H := ih p m f 40 B i9 i14 i15 a (by omega) hK h6 (by omega) (by omega) hm hf
      rw [dB_n (by omega)] at H
      exact H
    | cons c L =>
      have hc := hL c (List.mem_cons_self ..)
      have ec : cn (c :: (L ++ 40 :: B)) = cn (40 :: B) := (cn_n (by omega)).trans (cn_aj (AJ_t hL))
      have H := ih p m f c (L ++ 40 :: B) i9 i14 i15 a (by omega) hK (by omega) (by omega) (by omega) hm hf
      rw [dB_n (by omega), ec] at H
      exact H
  rcases H with ⟨r1, r2⟩ | ⟨r1, H⟩
  · rw [seq_n r1]; exact Or.inl ⟨r1, r2⟩
  · rw [seq_y r1]
    have hq : p < (sp T k 2 (cn (40 :: B)) p).2 ∧ (sp T k 2 (cn (40 :: B)) p).2 ≤ n := by
      rcases H2 with ⟨_, s2, s3⟩ | s
      · exact ⟨s2, s3⟩
      · omega
    generalize (sp T k 2 (cn (40 :: B)) p).2 = q at H hq
    show ((if opA (T q) = true ∨ opO (T q) = true then sp T k 3 (cn (40 :: B)) (q + 1) else (0, q)).1 < 0 ∧ _) ∨ _
    by_cases w : opA (T q) = true ∨ opO (T q) = true
    · have w' : T q = 38 ∨ T q = 124 := by
        rcases w with w | w
        · exact Or.inl (opA_i w)
        · exact Or.inr (opO_i w)
      rw [if_pos w]
      rcases H with ⟨_, b2⟩ | ⟨f', j9, j14, j15, j17, b, e, eK, ef⟩
      · omega
      · obtain ⟨f', rfl⟩ : ∃ z, f' = z + 1 := ⟨f' - 1, by omega⟩
        obtain ⟨L', l9, l15, b2, e2, eL2, eK2⟩ := GB_and (f := f') (i17 := j17) hT hx hg hL eK w'
        rw [e, e2]
        exact ihc (q + 1) 180 f' L' B l9 j14 l15 b2 eL2 eK2 h6 (by omega) (by omega) (by omega)
    · rw [if_neg w]
      have w1 := opA_o (fun z => w (Or.inl z))
      have w2 := opO_o (fun z => w (Or.inr z))
      refine Or.inr ⟨rfl, fun z => z.elim w1 w2, ?_⟩
      rcases H with ⟨b1, b2⟩ | ⟨f', j9, j14, j15, j17, b, e, eK, ef⟩
      · exact Or.inl ⟨b1, fun z => b2 (Or.inr (Or.inr z))⟩
      · exact Or.inr ⟨f', L, j9, j14, j15, j17, b, e, hL, eK, ef⟩
theorem m_conds {T : Nat → Int} {n : Nat} {i10 i11 : Int32} {a1 : Nat → Int32} (hT : TXT T n) (hx : TXM T n i10 a1) (hg : i11.toInt = 0) : ∀ k, MPP T n i10 a1 i11 k ∧ MCC T n i10 a1 i11 k := by
  intro k
  induction k with
  | zero => exact ⟨fun _ _ _ _ _ _ _ _ _ _ _ _ _ h _ _ => by omega, fun _ _ _ _ _ _ _ _ _ _ _ _ h _ _ => by omega⟩
  | succ k ih => exact ⟨m_piece hT hx hg ih.1 ih.2, m_cond hT hx hg ih.1 ih.2⟩
/-- a condition in its brackets, from the one that opens on -/
def spC (T : Nat → Int) (p : Nat) : Int × Nat := seq (sp T 1000 3 1 (p + 1)) (fun q => if T q = 41 then (0, q + 1) else (-1000 - (q : Int), q))
theorem spC_ok {T : Nat → Int} {n p : Nat} (hT : TXT T n) (hp : p < n) : OKat n p (spC T p) := by
  have h160 := hT.1
  unfold spC
  rcases sp_ok hT 1000 3 1 (p + 1) (by omega) (by omega) (by omega) with ⟨s1, s2, s3⟩ | s
  · rw [seq_y s1]
    generalize (sp T 1000 3 1 (p + 1)).2 = q at s2 s3
    show OKat n p (if T q = 41 then (0, q + 1) else (-1000 - (q : Int), q))
    by_cases w : T q = 41
    · rw [if_pos w]
      have := T_in hT (p := q) (by omega)
      exact Or.inl ⟨rfl, by show p < q + 1; omega, this⟩
    · rw [if_neg w]; exact OK_bad (by omega) h160 s3
  · rw [seq_n s.1]; exact Or.inr s
theorem m_condition {T : Nat → Int} {n p : Nat} {i9 i10 i11 i17 : Int32} {a1 a : Nat → Int32} (hT : TXT T n) (hx : TXM T n i10 a1) (hg : i11.toInt = 0) (h9 : i9.toInt = (p : Int)) (hc : T p = 40) :
    ((spC T p).1 < 0 ∧ (F_m12_condition i9 i10 i11 i17 a1 a).2.1.toInt = (spC T p).1) ∨ ((spC T p).1 = 0 ∧ (F_m12_condition i9 i10 i11 i17 a1 a).1.toInt = ((spC T p).2 : Int) ∧ (F_m12_condition i9 i10 i11 i17 a1 a).2.1.toInt = 0) := by
  have h160 := hT.1
  have hpn := T_in hT (p := p) (by omega)
  have hr := hr_of hT hx h9
  have e0 : F_m12_condition i9 i10 i11 i17 a1 a = f_m12_condition_j25 i10 a1 1452001 1 (F_m12_opens i9 i10 i11 0 0 a1 a).1 (F_m12_opens i9 i10 i11 0 0 a1 a).2.1 (F_m12_opens i9 i10 i11 0 0 a1 a).2.2.1 (F_m12_opens i9 i10 i11 0 0 a1 a).2.2.2.1 0 i17 (F_m12_opens i9 i10 i11 0 0 a1 a).2.2.2.2 := rfl
  rw [e0, op_o (by decide)]
  dsimp only
  rw [CL_1 (n := 1452000) hg]
  have hK : KP n p [] i9 0 0 a := ⟨h9, c0, c0, trivial, Nat.zero_le _, by omega⟩
  have hK2 := KP_push h160 hK hpn (show (F_m12_here i9 i10 a1).toInt = 40 by omega) (by omega)
  have hcn : cn (40 :: []) = 1 := cn_y (by omega)
  have H := (m_conds hT hx hg 1000).2 (p + 1) 180 1452000 [] [] _ _ _ _ AJ_n hK2 (by omega) (by omega) (by omega) (by omega)
  have H2 := sp_ok hT 1000 3 1 (p + 1) (by omega) (by omega) (by omega)
  rw [hcn] at H
  unfold spC
  rcases H with ⟨r1, r2⟩ | ⟨r1, r0, H⟩
  · rw [seq_n r1]; exact Or.inl ⟨r1, r2⟩
  · rw [seq_y r1]
    have hq : p + 1 < (sp T 1000 3 1 (p + 1)).2 ∧ (sp T 1000 3 1 (p + 1)).2 ≤ n := by
      rcases H2 with ⟨_, s2, s3⟩ | s
      · exact ⟨s2, s3⟩
      · omega
    generalize (sp T 1000 3 1 (p + 1)).2 = q at r0 H hq
    show ((if T q = 41 then (0, q + 1) else (-1000 - (q : Int), q) : Int × Nat).1 < 0 ∧ _) ∨ _
    rcases H with ⟨b1, b2⟩ | ⟨f', L', j9, j14, j15, j17, b, e, eL, eK, ef⟩
    · rw [if_neg b2]
      exact Or.inl ⟨by show -1000 - (q : Int) < 0; omega, b1⟩
    · rw [e]
      obtain ⟨f', rfl⟩ : ∃ z, f' = z + 1 := ⟨f' - 1, by omega⟩
      by_cases w : T q = 41
      · rw [if_pos w]
        have E := GB_end (f := f') (i17 := j17) hT hx hg eL eK w
        exact Or.inr ⟨rfl, E.1, by rw [E.2]; exact hg⟩
      · rw [if_neg w]
        exact Or.inl ⟨by show -1000 - (q : Int) < 0; omega, GB_bad hT hx hg eK (by omega)⟩
/-- the same, read by the class -/
theorem x_condition {T : Nat → Int} {n p : Nat} {i12 y a b : Int32} {a1 : Nat → Int32} (hT : TXT T n) (hx : TXX T n i12 a1) (hy : y.toInt = ((p + 1 : Nat) : Int)) (hp : p < n) :
    XR (sp T 1000 3 1 (p + 1)) a b (G_x3_readCondition 6 1 i12 y a b a1) :=
  (x_all hT hx 1000 1000 (Nat.le_refl _) 1 6 rfl (Nat.le_refl _) (by omega)).2.2.2 (p + 1) 1 y a b c1 (by omega) hy (by have := hT.1; omega)
