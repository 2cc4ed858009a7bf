/-! VOID, on both sides: one stage without a vote -/
theorem sub0 (x : Int32) : x - (0 : Int32) = x := by
  have h := i32_all x
  exact eq_of_toInt (by have := toInt_sub (x := x) rfl c0 (by omega) (by omega); omega)
theorem enough0 {a b c : Int32} : (F_x7_isEnough a b c = 0 ∧ ((100 : Int32) * a).toInt < (c * b).toInt) ∨ (F_x7_isEnough a b c = 1 ∧ ¬ ((100 : Int32) * a).toInt < (c * b).toInt) := by
  rw [E_x7_isEnough]
  by_cases h : ((100 : Int32) * a).toInt < (c * b).toInt
  · rw [if_pos h]; exact Or.inl ⟨rfl, h⟩
  · rw [if_neg h]; exact Or.inr ⟨rfl, h⟩
def SWR (k s : Nat) (og : Nat → Nat → Int32) (b44 b45 b47 : Nat → Int32) (x : Int32 × (Nat → Nat → Int32)) (m : Int32 × (Nat → Int32) × (Nat → Int32) × (Nat → Int32)) : Prop :=
  x.1 = m.1 ∧ (x.1 = 0 ∨ x.1 = 1) ∧ (∀ f j, ¬ (j = k ∧ (f = 11 ∨ f = 12)) → x.2 f j = og f j) ∧ x.2 11 k = m.2.1 k ∧ x.2 12 k = m.2.2.1 k ∧ (∀ j, j ≠ k → m.2.1 j = b44 j ∧ m.2.2.1 j = b45 j ∧ m.2.2.2 j = b47 j) ∧ ∀ q, q ≠ s → q < 24 → bitI (m.2.2.2 k) q = bitI (b47 k) q
theorem sw_of {r t k s : Nat} {u T P : Int32} {og : Nat → Nat → Int32} {b44 b45 b46 b47 b48 b49 b50 : Nat → Int32} (hu : u.toInt = (s : Int)) (hs : s < 24) (hT : T.toInt = (t : Int)) (hk : 2 * r + t = k) (hP : P.toNatClampNeg = k) (h46 : (b46 k).toInt ≠ -1) (h11 : og 11 k = b44 k) (h12 : og 12 k = b45 k) (h13 : og 13 k = b46 k) (h9 : og 9 k = b49 k) (h10 : og 10 k = b50 k) (e1 : bitI (b47 k) s = bitI (b49 k) s) (e2 : bitI (b47 k) s = true → bitI (b48 k) s = bitI (b50 k) s) :
    SWR k s og b44 b45 b47 (F_x7_standsWithout T ((1 : Int32) <<< (u &&& 31)) r og) (F_m12_goesWithout P u b44 b45 b46 b47 b48) := by
  have pw : ∀ x : Int32, (x &&& ((1 : Int32) <<< (u &&& 31))).toInt = 0 ↔ bitI x s = false := fun x => by
    have := qI_pow (x := x) (y := u) (by omega) (by omega)
    rw [show u.toInt.toNat = s by omega] at this
    exact this
  have hk' : 2 * r + T.toNatClampNeg = k := by rw [nc hT]; exact hk
  rw [E_x7_standsWithout, E_m12_goesWithout, hk', hP, if_neg h46, h9]
  rcases has_b (p := b47 k) hu (by omega) with ⟨g1, g2⟩ | ⟨g1, g2⟩
  · rw [g2, if_pos y10, if_pos (fun q => by rw [(pw _).mp q] at e1; rw [g1] at e1; cases e1), up2_f (a := 10) (f := 12) (by decide), h10, h12]
    have e3 := e2 g1
    have nb : ∀ (y : Int32) (q : Nat), q ≠ s → q < 24 → bitI (y &&& (((1 : Int32) <<< (u &&& 31)) ^^^ (-1 : Int32))) q = bitI y q := by
      intro y q hq hq2
      have z := (sI_nsh (y := u) (by omega) (by omega) (k := q) (by omega)).mpr (by omega)
      rw [qI_and, z, Bool.and_true]
    -- the end, for either answer
    have fin : ∀ (o : Nat → Nat → Int32) (y : Int32), (∀ f j, ¬ (j = k ∧ (f = 11 ∨ f = 12)) → o f j = og f j) → o 11 k = y → o 12 k = b45 k - (1 : Int32) → SWR k s og b44 b45 b47 (f_x7_standsWithout_j16 T r o)
        (if (upd b45 k (b45 k - (1 : Int32)) k).toInt ≤ 0 then ((0 : Int32), (upd b44 k y), upd b45 k (b45 k - (1 : Int32)), (upd b47 k ((b47 k) &&& (((1 : Int32) <<< (u &&& 31)) ^^^ (-1 : Int32))))) else (if ((100 : Int32) * ((upd b44 k y) k)).toInt < ((b46 k) * (upd b45 k (b45 k - (1 : Int32)) k)).toInt then ((0 : Int32), (upd b44 k y), upd b45 k (b45 k - (1 : Int32)), (upd b47 k ((b47 k) &&& (((1 : Int32) <<< (u &&& 31)) ^^^ (-1 : Int32))))) else ((1 : Int32), (upd b44 k y), upd b45 k (b45 k - (1 : Int32)), (upd b47 k ((b47 k) &&& (((1 : Int32) <<< (u &&& 31)) ^^^ (-1 : Int32))))))) := by
      intro o y ho ho1 ho2
      have o13 : o 13 k = b46 k := by rw [ho 13 k (fun q => by omega)]; exact h13
      have rest : ∀ w : Int32, (w = 0 ∨ w = 1) → SWR k s og b44 b45 b47 (w, o) (w, (upd b44 k y), upd b45 k (b45 k - (1 : Int32)), (upd b47 k ((b47 k) &&& (((1 : Int32) <<< (u &&& 31)) ^^^ (-1 : Int32))))) := fun w hw => by
        refine ⟨rfl, hw, ho, ?_, ?_, fun j hj => ⟨upd_n hj, upd_n hj, upd_n hj⟩, fun q hq hq2 => ?_⟩
        · show o 11 k = upd b44 k y k; rw [upd_s]; exact ho1
        · show o 12 k = upd b45 k (b45 k - 1) k; rw [upd_s]; exact ho2
        · show bitI (upd b47 k _ k) q = _; rw [upd_s]; exact nb _ q hq hq2
      rw [E_x7_standsWithout_j16, hk', ho1, ho2, o13, upd_s, upd_s]
      by_cases w : (b45 k - (1 : Int32)).toInt ≤ 0
      · rw [if_pos w, if_pos w]; exact rest _ (Or.inl rfl)
      · rw [if_neg w, if_neg w]
        rcases enough0 (a := y) (b := b45 k - (1 : Int32)) (c := b46 k) with ⟨q1, q2⟩ | ⟨q1, q2⟩
        · rw [q1, if_pos c0, if_pos q2]; exact rest _ (Or.inl rfl)
        · rw [q1, if_neg n10, if_neg q2]; exact rest _ (Or.inr rfl)
    rcases has_b (p := b48 k) hu (by omega) with ⟨g3, g4⟩ | ⟨g3, g4⟩
    · rw [g4, if_neg n10, if_neg (fun q => by rw [(pw _).mp q] at e3; rw [g3] at e3; cases e3), E_m12_goesWithout_j22, hP, up2_f (a := 11) (f := 12) (by decide), h11]
      exact fin _ _ (fun f j hf => by
        by_cases q : f = 11
        · subst q; rw [up2_j (fun z => hf ⟨z, Or.inl rfl⟩), up2_f (by decide)]
        · rw [up2_f q]
          by_cases q2 : f = 12
          · subst q2; rw [up2_j (fun z => hf ⟨z, Or.inr rfl⟩)]
          · rw [up2_f q2]) up2_same (by rw [up2_f (a := 12) (f := 11) (by decide), up2_same])
    · rw [g4, if_pos c0, if_pos ((pw _).mpr (by rw [← e3]; exact g3)), E_m12_goesWithout_j22, hP, sub0]
      exact fin _ _ (fun f j hf => by
        by_cases q2 : f = 12
        · subst q2; rw [up2_j (fun z => hf ⟨z, Or.inr rfl⟩)]
        · rw [up2_f q2]) (by rw [up2_f (a := 11) (f := 12) (by decide)]; exact h11) up2_same
  · rw [g2, if_neg n00, if_neg (fun q => q ((pw _).mpr (by rw [← e1]; exact g1)))]
    exact ⟨rfl, Or.inr rfl, fun _ _ _ => rfl, h11, h12, fun j hj => ⟨rfl, rfl, rfl⟩, fun _ _ _ => rfl⟩
