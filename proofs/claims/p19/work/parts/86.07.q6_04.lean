section GBS
variable {T : Nat → Int} {n q f : Nat} {i10 i11 i9 i14 i15 i17 : Int32} {a1 a : Nat → Int32} {L B : List Int}
end GBS
def MPP (T : Nat → Int) (n : Nat) (i10 : Int32) (a1 : Nat → Int32) (i11 : Int32) (k : Nat) : Prop := ∀ (p m f : Nat) (h : Int) (S : List Int) (i9 i14 i15 : Int32) (a : Nat → Int32), (h = 33 ∨ h = 40 ∨ h = 38 ∨ h = 124) → KP n p (h :: S) i9 i14 i15 a → cn (h :: S) ≤ 6 → 1 ≤ cn (h :: S) → 4 * (n + 1 - p) + 2 < k → 170 ≤ m + p → 400 ≤ f + p →
  ((sp T k 2 (cn (h :: S)) p).1 < 0 ∧ (QP i10 a1 m f i9 i11 i14 i15 a).2.1.toInt = (sp T k 2 (cn (h :: S)) p).1) ∨ ((sp T k 2 (cn (h :: S)) p).1 = 0 ∧ (((QP i10 a1 m f i9 i11 i14 i15 a).2.1.toInt = -1000 - ((sp T k 2 (cn (h :: S)) p).2 : Int) ∧ ¬ (T (sp T k 2 (cn (h :: S)) p).2 = 38 ∨ T (sp T k 2 (cn (h :: S)) p).2 = 124 ∨ T (sp T k 2 (cn (h :: S)) p).2 = 41)) ∨ ∃ (f' : Nat) (j9 j14 j15 j17 : Int32) (b : Nat → Int32), QP i10 a1 m f i9 i11 i14 i15 a = GB i10 a1 f' j9 i11 j14 j15 j17 b ∧ KP n (sp T k 2 (cn (h :: S)) p).2 (dB (h :: S)) j9 j14 j15 b ∧ 400 ≤ f' + (sp T k 2 (cn (h :: S)) p).2))
def MCC (T : Nat → Int) (n : Nat) (i10 : Int32) (a1 : Nat → Int32) (i11 : Int32) (k : Nat) : Prop := ∀ (p m f : Nat) (L B : List Int) (i9 i14 i15 : Int32) (a : Nat → Int32), AJ L → KP n p (L ++ 40 :: B) i9 i14 i15 a → cn (40 :: B) ≤ 6 → 4 * (n + 1 - p) + 3 < k → 170 ≤ m + p → 400 ≤ f + p →
  ((sp T k 3 (cn (40 :: B)) p).1 < 0 ∧ (QP i10 a1 m f i9 i11 i14 i15 a).2.1.toInt = (sp T k 3 (cn (40 :: B)) p).1) ∨ ((sp T k 3 (cn (40 :: B)) p).1 = 0 ∧ ¬ (T (sp T k 3 (cn (40 :: B)) p).2 = 38 ∨ T (sp T k 3 (cn (40 :: B)) p).2 = 124) ∧ (((QP i10 a1 m f i9 i11 i14 i15 a).2.1.toInt = -1000 - ((sp T k 3 (cn (40 :: B)) p).2 : Int) ∧ T (sp T k 3 (cn (40 :: B)) p).2 ≠ 41) ∨ ∃ (f' : Nat) (L' : List Int) (j9 j14 j15 j17 : Int32) (b : Nat → Int32), QP i10 a1 m f i9 i11 i14 i15 a = GB i10 a1 f' j9 i11 j14 j15 j17 b ∧ AJ L' ∧ KP n (sp T k 3 (cn (40 :: B)) p).2 (L' ++ 40 :: B) j9 j14 j15 b ∧ 400 ≤ f' + (sp T k 3 (cn (40 :: B)) p).2))
theorem m_piece {T : Nat → Int} {n k : Nat} {i10 i11 : Int32} {a1 : Nat → Int32} (hT : TXT T n) (hx : TXM T n i10 a1) (hg : i11.toInt = 0) (ih : MPP T n i10 a1 i11 k) (ihc : MCC T n i10 a1 i11 k) : MPP T n i10 a1 i11 (k + 1) := by
  have h160 := hT.1
  intro p m f h S i9 i14 i15 a hh hK h6 h1 hk hm hf
  have hK0 := hK
  obtain ⟨k1, k2, k3, k4, k5, k6⟩ := hK
  have hr := hr_of hT hx k1
  obtain ⟨m, rfl⟩ : ∃ q, m = q + 2 := ⟨m - 2, by omega⟩
  obtain ⟨f, rfl⟩ : ∃ q, f = q + 1 := ⟨f - 1, by omega⟩
  rw [sp_2]
  by_cases h33 : T p = 33
  · rw [if_pos h33]
    have hpn := T_in hT (p := p) (by omega)
    by_cases ho : 6 ≤ cn (h :: S)
    · rw [if_pos ho]
      have e6 := pp_6 (m := m) (a := a) (i15 := i15) hg (Or.inl (show (F_m12_here i9 i10 a1).toInt = 33 by omega)) (show i14.toInt = 6 by omega) (by omega)
      refine Or.inl ⟨by show -5000 - (p : Int) < 0; omega, ?_⟩
      unfold QP
      rw [CB_bad (by omega)]; show _ = -5000 - (p : Int); omega
    · rw [if_neg ho]
      have hc : cn (33 :: h :: S) = cn (h :: S) + 1 := cn_y (by omega)
      have hK2 := KP_push h160 hK0 hpn (show (F_m12_here i9 i10 a1).toInt = 33 by omega) (by omega)
      have H := ih (p + 1) (m + 1) (f + 1) 33 (h :: S) _ _ _ _ (by omega) hK2 (by omega) (by omega) (by omega) (by omega) (by omega)
      rw [hc, dB_y] at H
      have e : QP i10 a1 (m + 2) (f + 1) i9 i11 i14 i15 a = QP i10 a1 (m + 1) (f + 1) (i9 + 1) i11 (i14 + 1) (i15 + 1) (upd a i15.toNatClampNeg (F_m12_here i9 i10 a1)) := by
        unfold QP
        rw [pp_o hg (Or.inl (by omega)) (by omega)]
      rw [e]; exact H
  · rw [if_neg h33]
    by_cases h40 : T p = 40
    · rw [if_pos h40]
      have hpn := T_in hT (p := p) (by omega)
      by_cases ho : 6 ≤ cn (h :: S)
      · rw [if_pos ho]
        have e6 := pp_6 (m := m) (a := a) (i15 := i15) hg (Or.inr (show (F_m12_here i9 i10 a1).toInt = 40 by omega)) (show i14.toInt = 6 by omega) (by omega)
        refine Or.inl ⟨by show -5000 - (p : Int) < 0; omega, ?_⟩
        unfold QP
        rw [CB_bad (by omega)]; show _ = -5000 - (p : Int); omega
      · rw [if_neg ho]
        have hc : cn (40 :: h :: S) = cn (h :: S) + 1 := cn_y (by omega)
        have hK2 := KP_push h160 hK0 hpn (show (F_m12_here i9 i10 a1).toInt = 40 by omega) (by omega)
        have H := ihc (p + 1) (m + 1) (f + 1) [] (h :: S) _ _ _ _ AJ_n hK2 (by omega) (by omega) (by omega) (by omega)
        have H2 := sp_ok hT k 3 (cn (h :: S) + 1) (p + 1) (by omega) (by omega) (by omega)
        rw [hc] at H
        have e : QP i10 a1 (m + 2) (f + 1) i9 i11 i14 i15 a = QP i10 a1 (m + 1) (f + 1) (i9 + 1) i11 (i14 + 1) (i15 + 1) (upd a i15.toNatClampNeg (F_m12_here i9 i10 a1)) := by
          unfold QP
          rw [pp_o hg (Or.inr (by omega)) (by omega)]
        rw [e]
        rcases H with ⟨r1, r2⟩ | ⟨r1, r0, H⟩
        · rw [seq_n r1]; exact Or.inl ⟨r1, r2⟩
        · rw [seq_y r1]
          have hq : p + 1 < (sp T k 3 (cn (h :: S) + 1) (p + 1)).2 ∧ (sp T k 3 (cn (h :: S) + 1) (p + 1)).2 ≤ n := by
            rcases H2 with ⟨_, s2, s3⟩ | s
            · exact ⟨s2, s3⟩
            · omega
          generalize (sp T k 3 (cn (h :: S) + 1) (p + 1)).2 = q at r0 H hq
          show ((if T q = 41 then (0, q + 1) else (-1000 - (q : Int), q) : Int × Nat).1 < 0 ∧ _) ∨ _
          rcases H with ⟨b1, b2⟩ | ⟨f', L', j9, j14, j15, j17, b, e, eL, eK, ef⟩
          · rw [if_neg b2]
            exact Or.inl ⟨by show -1000 - (q : Int) < 0; omega, b1⟩
          · rw [e]
            obtain ⟨f', rfl⟩ : ∃ z, f' = z + 1 := ⟨f' - 1, by omega⟩
            by_cases w : T q = 41
            · rw [if_pos w]
              obtain ⟨l9, l14, l15, e2, eK2⟩ := GB_close (f := f') (i17 := j17) hT hx hg eL eK w
              exact Or.inr ⟨rfl, Or.inr ⟨f', l9, l14, l15, j17, b, e2, eK2, by show 400 ≤ f' + (q + 1); omega⟩⟩
            · rw [if_neg w]
              exact Or.inl ⟨by show -1000 - (q : Int) < 0; omega, GB_bad hT hx hg eK (by omega)⟩
    · rw [if_neg h40]
      have H := m_cmp (i9 := i9) (i14 := i14) (i15 := i15) (a := a) (f := 2894001) hT hx hg hh hK0 h6 h1 (k := k) (by omega) (by omega) rfl
      have e : QP i10 a1 (m + 2) (f + 1) i9 i11 i14 i15 a = CB i10 a1 (f + 1) (FXa i10 a1 180 2894001 i9 i11 i14 i15 a) := by
        unfold QP
        rw [pp_a hg (by omega) (by omega)]
      rw [e]
      have H2 := sp_ok hT (k + 1) 2 (cn (h :: S)) p (by omega) k6 hk
      rw [sp_2, if_neg h33, if_neg h40] at H2
      generalize seq (sp T k 1 (cn (h :: S)) p) (fun q => if T q = 60 ∨ T q = 62 ∨ T q = 61 then sp T k 1 (cn (h :: S)) (q + 1) else (-1000 - (q : Int), q)) = r at H H2
      rcases H with ⟨r1, r2⟩ | ⟨r1, H⟩
      · exact Or.inl ⟨r1, by rw [CB_bad (by omega)]; exact r2⟩
      · refine Or.inr ⟨r1, ?_⟩
        rcases H with ⟨b1, b2⟩ | ⟨j9, j14, j15, j17, b, e2, eK⟩
        · exact Or.inl ⟨by rw [CB_bad (by omega)]; exact b1, b2⟩
        · refine Or.inr ⟨f + 1, j9, j14, j15, j17, b, ?_, eK, ?_⟩
          · rw [e2, CB_good hg]
          · rcases H2 with ⟨_, s2, s3⟩ | s
            · omega
            · omega
