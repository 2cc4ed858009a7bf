theorem m_cond {T : Nat → Int} {n k : Nat} {i10 i11 : Int32} {a1 : Nat → Int32} (hT : TXT T n) (hx : TXM T n i10 a1) (hg : i11.toInt = 0) (ih : MPP T n i10 a1 i11 k) (ihc : MCC T n i10 a1 i11 k) : MCC T n i10 a1 i11 (k + 1) := by
  have h160 := hT.1
  intro p m f L B i9 i14 i15 a hL hK h6 hk hm hf
  have k6 := hK.2.2.2.2.2
  have hcB : cn (40 :: B) = cn B + 1 := cn_y (by omega)
  rw [sp_3]
  have H2 := sp_ok hT k 2 (cn (40 :: B)) p (by omega) k6 (by omega)
  have H : ((sp T k 2 (cn (40 :: B)) p).1 < 0 ∧ (QP i10 a1 m f i9 i11 i14 i15 a).2.1.toInt = (sp T k 2 (cn (40 :: B)) p).1) ∨ ((sp T k 2 (cn (40 :: B)) p).1 = 0 ∧ (((QP i10 a1 m f i9 i11 i14 i15 a).2.1.toInt = -1000 - ((sp T k 2 (cn (40 :: B)) p).2 : Int) ∧ ¬ (T (sp T k 2 (cn (40 :: B)) p).2 = 38 ∨ T (sp T k 2 (cn (40 :: B)) p).2 = 124 ∨ T (sp T k 2 (cn (40 :: B)) p).2 = 41)) ∨ ∃ (f' : Nat) (j9 j14 j15 j17 : Int32) (b : Nat → Int32), QP i10 a1 m f i9 i11 i14 i15 a = GB i10 a1 f' j9 i11 j14 j15 j17 b ∧ KP n (sp T k 2 (cn (40 :: B)) p).2 (L ++ 40 :: B) j9 j14 j15 b ∧ 400 ≤ f' + (sp T k 2 (cn (40 :: B)) p).2)) := by
    cases L with
    | nil =>
      have H := ih p m f 40 B i9 i14 i15 a (by omega) hK h6 (by omega) (by omega) hm hf
      rw [dB_n (by omega)] at H
      exact H
    | cons c L =>
      have hc := hL c (List.mem_cons_self ..)
      have ec : cn (c :: (L ++ 40 :: B)) = cn (40 :: B) := (cn_n (by omega)).trans (cn_aj (AJ_t hL))
      have H := ih p m f c (L ++ 40 :: B) i9 i14 i15 a (by omega) hK (by omega) (by omega) (by omega) hm hf
      rw [dB_n (by omega), ec] at H
      exact H
  rcases H with ⟨r1, r2⟩ | ⟨r1, H⟩
  · rw [seq_n r1]; exact Or.inl ⟨r1, r2⟩
  · rw [seq_y r1]
    have hq : p < (sp T k 2 (cn (40 :: B)) p).2 ∧ (sp T k 2 (cn (40 :: B)) p).2 ≤ n := by
      rcases H2 with ⟨_, s2, s3⟩ | s
      · exact ⟨s2, s3⟩
      · omega
    generalize (sp T k 2 (cn (40 :: B)) p).2 = q at H hq
    show ((if opA (T q) = true ∨ opO (T q) = true then sp T k 3 (cn (40 :: B)) (q + 1) else (0, q)).1 < 0 ∧ _) ∨ _
    by_cases w : opA (T q) = true ∨ opO (T q) = true
    · have w' : T q = 38 ∨ T q = 124 := by
        rcases w with w | w
        · exact Or.inl (opA_i w)
        · exact Or.inr (opO_i w)
      rw [if_pos w]
      rcases H with ⟨_, b2⟩ | ⟨f', j9, j14, j15, j17, b, e, eK, ef⟩
      · omega
      · obtain ⟨f', rfl⟩ : ∃ z, f' = z + 1 := ⟨f' - 1, by omega⟩
        obtain ⟨L', l9, l15, b2, e2, eL2, eK2⟩ := GB_and (f := f') (i17 := j17) hT hx hg hL eK w'
        rw [e, e2]
        exact ihc (q + 1) 180 f' L' B l9 j14 l15 b2 eL2 eK2 h6 (by omega) (by omega) (by omega)
    · rw [if_neg w]
      have w1 := opA_o (fun z => w (Or.inl z))
      have w2 := opO_o (fun z => w (Or.inr z))
      refine Or.inr ⟨rfl, fun z => z.elim w1 w2, ?_⟩
      rcases H with ⟨b1, b2⟩ | ⟨f', j9, j14, j15, j17, b, e, eK, ef⟩
      · exact Or.inl ⟨b1, fun z => b2 (Or.inr (Or.inr z))⟩
      · exact Or.inr ⟨f', L, j9, j14, j15, j17, b, e, hL, eK, ef⟩
theorem m_conds {T : Nat → Int} {n : Nat} {i10 i11 : Int32} {a1 : Nat → Int32} (hT : TXT T n) (hx : TXM T n i10 a1) (hg : i11.toInt = 0) : ∀ k, MPP T n i10 a1 i11 k ∧ MCC T n i10 a1 i11 k := by
  intro k
  induction k with
  | zero => exact ⟨fun _ _ _ _ _ _ _ _ _ _ _ _ _ h _ _ => by omega, fun _ _ _ _ _ _ _ _ _ _ _ _ h _ _ => by omega⟩
  | succ k ih => exact ⟨m_piece hT hx hg ih.1 ih.2, m_cond hT hx hg ih.1 ih.2⟩
/-- a condition in its brackets, from the one that opens on -/
def spC (T : Nat → Int) (p : Nat) : Int × Nat := seq (sp T 1000 3 1 (p + 1)) (fun q => if T q = 41 then (0, q + 1) else (-1000 - (q : Int), q))
