section MST
variable {i10 i9 i11 i14 i15 i16 i17 x c : Int32} {a1 a : Nat → Int32} {n m : Nat}
theorem pp_open (hg : i11.toInt = 0) (hc : (F_m12_here i9 i10 a1).toInt = 33 ∨ (F_m12_here i9 i10 a1).toInt = 40) : f_m12_piece_j1 i10 a1 (m + 1) i9 i11 i14 i15 a = f_m12_piece_j1 i10 a1 m (F_m12_opens i9 i10 i11 i14 i15 a1 a).1 (F_m12_opens i9 i10 i11 i14 i15 a1 a).2.1 (F_m12_opens i9 i10 i11 i14 i15 a1 a).2.2.1 (F_m12_opens i9 i10 i11 i14 i15 a1 a).2.2.2.1 (F_m12_opens i9 i10 i11 i14 i15 a1 a).2.2.2.2 := by
  rw [pp_e, good1 hg, if_neg n10]
  by_cases w : (F_m12_here i9 i10 a1).toInt = 33
  · rw [if_pos w]
  · rw [if_neg w, if_neg (by omega)]
theorem pp_o (hg : i11.toInt = 0) (hc : (F_m12_here i9 i10 a1).toInt = 33 ∨ (F_m12_here i9 i10 a1).toInt = 40) (h : i14.toInt ≠ 6) : f_m12_piece_j1 i10 a1 (m + 1) i9 i11 i14 i15 a = f_m12_piece_j1 i10 a1 m (i9 + 1) i11 (i14 + 1) (i15 + 1) (upd a i15.toNatClampNeg (F_m12_here i9 i10 a1)) := by
  rw [pp_open hg hc, op_o h]
theorem pp_6 (hg : i11.toInt = 0) (hc : (F_m12_here i9 i10 a1).toInt = 33 ∨ (F_m12_here i9 i10 a1).toInt = 40) (h : i14.toInt = 6) (h9 : 0 ≤ i9.toInt ∧ i9.toInt ≤ 1000) : (f_m12_piece_j1 i10 a1 (m + 2) i9 i11 i14 i15 a).2.1.toInt = -5000 - i9.toInt := by
  have c5 : (5 : Int32).toInt = 5 := by decide
  have eb := fl0 (f := 5) (a := i9) hg (by omega) h9
  rw [pp_open hg hc, op_6 h]
  dsimp only
  rw [pp_e, good0 (by omega), if_pos y00]
  have e0 : f_m12_piece_b_22 i10 a1 (i9 + 1) (F_m12_fails 5 i9 i11) (i14 + 1) (i15 + 1) (upd a i15.toNatClampNeg (F_m12_here i9 i10 a1)) = if (1 : Int32).toInt = 0 then f_m12_piece_b_49 (i9 + 1) (F_m12_fails 5 i9 i11) (i14 + 1) (i15 + 1) 0 (upd a i15.toNatClampNeg (F_m12_here i9 i10 a1)) else if (F_m12_isGood (F_m12_fails 5 i9 i11)).toInt = 0 then (i9 + 1, F_m12_fails 5 i9 i11, i14 + 1, i15 + 1, 0, upd a i15.toNatClampNeg (F_m12_here i9 i10 a1)) else f_m12_piece_b_95 i10 a1 (i9 + 1) (F_m12_fails 5 i9 i11) (i14 + 1) (i15 + 1) 0 (upd a i15.toNatClampNeg (F_m12_here i9 i10 a1)) (f_m12_piece_j23 i10 a1 2893999) := rfl
  rw [e0, if_neg n10, good0 (by omega), if_pos y00]
  show (F_m12_fails 5 i9 i11).toInt = _
  omega
theorem pp_a (hg : i11.toInt = 0) (h1 : (F_m12_here i9 i10 a1).toInt ≠ 33) (h2 : (F_m12_here i9 i10 a1).toInt ≠ 40) : f_m12_piece_j1 i10 a1 (m + 1) i9 i11 i14 i15 a = FXa i10 a1 180 2894001 i9 i11 i14 i15 a := by
  rw [pp_e, good1 hg, if_neg n10, if_neg h1, if_pos h2]
  exact PL_1 (n := 2894001) hg
end MST
/-- E, a comparison, E -/
theorem m_cmp {T : Nat → Int} {n k : Nat} {i10 i11 : Int32} {a1 : Nat → Int32} (hT : TXT T n) (hx : TXM T n i10 a1) (hg : i11.toInt = 0) {p f : Nat} {h : Int} {S : List Int} {i9 i14 i15 : Int32} {a : Nat → Int32} (hh : h = 33 ∨ h = 40 ∨ h = 38 ∨ h = 124) (hK : KP n p (h :: S) i9 i14 i15 a) (h6 : cn (h :: S) ≤ 6) (h1 : 1 ≤ cn (h :: S)) (hk : 4 * (n + 1 - p) + 1 < k) (hf : 400 ≤ f + p) {r : Int × Nat}
    (er : r = seq (sp T k 1 (cn (h :: S)) p) (fun q => if T q = 60 ∨ T q = 62 ∨ T q = 61 then sp T k 1 (cn (h :: S)) (q + 1) else (-1000 - (q : Int), q))) :
    (r.1 < 0 ∧ (FXa i10 a1 180 f i9 i11 i14 i15 a).2.1.toInt = r.1) ∨ (r.1 = 0 ∧ (((FXa i10 a1 180 f i9 i11 i14 i15 a).2.1.toInt = -1000 - (r.2 : Int) ∧ ¬ (T r.2 = 38 ∨ T r.2 = 124 ∨ T r.2 = 41)) ∨ ∃ (j9 j14 j15 j17 : Int32) (b : Nat → Int32), FXa i10 a1 180 f i9 i11 i14 i15 a = (j9, i11, j14, j15, j17, b) ∧ KP n r.2 (dB (h :: S)) j9 j14 j15 b)) := by
  have h160 := hT.1
  have c1' := c1
  subst er
  have H := (m_sums hT hx hg k).1 p 180 f h [] S i9 i14 i15 a (by intro z; omega) AO_n hK h6 h1 hk (by omega) hf
  have H2 := sp_ok hT k 1 (cn (h :: S)) p (by omega) hK.2.2.2.2.2 hk
  rcases H with ⟨r1, r2⟩ | ⟨r1, r2, f2, L, j9, j14, j15, b, e, eL, eK, ef⟩
  · rw [seq_n r1]; exact Or.inl ⟨r1, r2⟩
  · rw [seq_y r1, e]
    have hq : p < (sp T k 1 (cn (h :: S)) p).2 ∧ (sp T k 1 (cn (h :: S)) p).2 ≤ n := by
      rcases H2 with ⟨_, s2, s3⟩ | s
      · exact ⟨s2, s3⟩
      · omega
    generalize (sp T k 1 (cn (h :: S)) p).2 = q at r2 eK ef hq
    obtain ⟨q1, q2, q3, q4, q5, q6⟩ := eK
    have hr2 := hr_of hT hx q1
    have r2' : ¬ (T q = 42 ∨ T q = 47 ∨ T q = 37 ∨ T q = 43 ∨ T q = 45) := r2
    have hl1 := len_app (L := L) (h := h) (S := S)
    obtain ⟨L', g1, g2, g3, g4, g5⟩ := sums_of (p0 := 1) (h := h) (by intro z; omega) eL (by omega) q3 q4
    have g5 := g5 y10
    subst g5
    have g3 : (F_m12_sums 1 j15 b).toInt = ((S.length + 1 : Nat) : Int) := g3
    have ht := tp_c g3 g4 (by omega)
    rw [cn_ao eL] at q2
    obtain ⟨f2, rfl⟩ : ∃ q, f2 = q + 1 := ⟨f2 - 1, by omega⟩
    have eb := fl0 (f := 1) (a := j9) hg (by omega) (by omega)
    rw [GO_good hg, go_nop (by intro z; omega)]
    show ((if T q = 60 ∨ T q = 62 ∨ T q = 61 then sp T k 1 (cn (h :: S)) (q + 1) else (-1000 - (q : Int), q)).1 < 0 ∧ _) ∨ _
    by_cases w : T q = 60 ∨ T q = 62 ∨ T q = 61
    · rw [if_pos w]
      have hqn := T_in hT (p := q) (by omega)
      have hsg : (F_m12_isSign (F_m12_top (F_m12_sums 1 j15 b) b)).toInt = 0 := by
        rcases sig (v := F_m12_top (F_m12_sums 1 j15 b) b) with ⟨z, e⟩ | ⟨z, e⟩
        · omega
        · rw [e]; exact y00
      rw [g59_sg (by omega), if_neg (by omega)]
      unfold plt
      rw [if_neg n10]
      dsimp only
      rw [PL_1 hg]
      have hK2 : KP n (q + 1) (T q :: h :: S) (j9 + 1) j14 (F_m12_sums 1 j15 b + 1) (upd b (F_m12_sums 1 j15 b).toNatClampNeg (F_m12_here j9 i10 a1)) := KP_put h160 q1 q2 g3 g4 (by show S.length + 1 ≤ q; omega) hqn hr2 (by omega)
      have hc : cn (T q :: h :: S) = cn (h :: S) := cn_n (by omega)
      have H := (m_sums hT hx hg k).1 (q + 1) 180 f2 (T q) [] (h :: S) _ _ _ _ (by intro z; omega) AO_n hK2 (by omega) (by omega) (by omega) (by omega) (by omega)
      have H2 := sp_ok hT k 1 (cn (h :: S)) (q + 1) (by omega) (by omega) (by omega)
      rw [hc] at H
      rcases H with ⟨r1, r2⟩ | ⟨r1, r3, f3, M, l9, l14, l15, b2, e2, eL2, eK2, ef2⟩
      · exact Or.inl ⟨r1, r2⟩
      · rw [e2]
        refine Or.inr ⟨r1, ?_⟩
        have hq2 : q + 1 < (sp T k 1 (cn (h :: S)) (q + 1)).2 ∧ (sp T k 1 (cn (h :: S)) (q + 1)).2 ≤ n := by
          rcases H2 with ⟨_, s2, s3⟩ | s
          · exact ⟨s2, s3⟩
          · omega
        generalize (sp T k 1 (cn (h :: S)) (q + 1)).2 = z at r3 eK2 ef2 hq2
        obtain ⟨z1, z2, z3, z4, z5, z6⟩ := eK2
        have hr3 := hr_of hT hx z1
        have r3' : ¬ (T z = 42 ∨ T z = 47 ∨ T z = 37 ∨ T z = 43 ∨ T z = 45) := r3
        have hl2 := len_app (L := M) (h := T q) (S := h :: S)
        have hl3 : (h :: S).length = S.length + 1 := rfl
        obtain ⟨L2, v1, v2, v3, v4, v5⟩ := sums_of (p0 := 1) (h := T q) (by intro z; omega) eL2 (by omega) z3 z4
        have v5 := v5 y10
        subst v5
        have v3 : (F_m12_sums 1 l15 b2).toInt = (((h :: S).length + 1 : Nat) : Int) := v3
        have ht2 := tp_c v3 v4 (by omega)
        rw [cn_ao eL2, hc] at z2
        obtain ⟨f3, rfl⟩ : ∃ q, f3 = q + 1 := ⟨f3 - 1, by omega⟩
        have eb2 := fl0 (f := 1) (a := l9) hg (by omega) (by omega)
        have hsg2 : (F_m12_isSign (F_m12_top (F_m12_sums 1 l15 b2) b2)).toInt = 1 := by
          rcases sig (v := F_m12_top (F_m12_sums 1 l15 b2) b2) with ⟨z, e⟩ | ⟨z, e⟩
          · rw [e]; exact c1
          · omega
        rw [GO_good hg, go_nop (by intro y; omega)]
        by_cases w3 : T z = 93
        · left
          rw [g59_rb (by omega), if_neg (by omega)]
          unfold plt
          rw [if_pos y00]
          dsimp only
          rw [PL_bad (by omega)]
          exact ⟨by omega, by omega⟩
        · by_cases w4 : T z = 60 ∨ T z = 62 ∨ T z = 61
          · left
            rw [g59_sg (by omega), if_pos (Or.inr (by omega))]
            unfold plt
            rw [if_neg n10]
            dsimp only
            rw [PL_bad (by omega)]
            exact ⟨by omega, by omega⟩
          · right
            rw [g59_el (by omega) (by omega), if_neg (by omega)]
            unfold plt
            rw [if_pos y00]
            dsimp only
            rw [PL_0 hg]
            have E := ends_of (S := h :: S) (d := F_m12_sums 1 l15 b2 - 1) (o := l14) (by omega) (pred_of v3 (by omega)) z2 v4.2
            have hd := dB_l (h :: S)
            exact ⟨l9, _, _, 0, b2, rfl, z1, E.1, E.2.1, E.2.2, by omega, by omega⟩
    · rw [if_neg w]
      refine Or.inl ⟨by show -1000 - (q : Int) < 0; omega, ?_⟩
      show _ = -1000 - (q : Int)
      by_cases w3 : T q = 93
      · rw [g59_rb (by omega), if_neg (by omega)]
        unfold plt
        rw [if_pos y00]
        dsimp only
        rw [PL_bad (by omega)]; omega
      · rw [g59_el (by omega) (by omega)]
        rcases sig (v := F_m12_top (F_m12_sums 1 j15 b) b) with ⟨z, e⟩ | ⟨z, e⟩
        · omega
        · rw [e, if_pos y00]
          unfold plt
          rw [if_pos y00]
          dsimp only
          rw [PL_bad (by omega)]; omega
