/-! the reference runs the code -/
def VS (a28 a29 : Nat → Int32) : List VR → Prop
  | [] => True
  | x :: S => a28 S.length = x.1 ∧ a29 S.length = bI x.2 ∧ VS a28 a29 S
theorem VS_up {a28 a29 : Nat → Int32} {v r : Int32} : ∀ {S : List VR} {i j : Nat}, S.length ≤ i → S.length ≤ j → VS a28 a29 S → VS (upd a28 i v) (upd a29 j r) S := by
  intro S
  induction S with
  | nil => intro i j _ _ _; trivial
  | cons x S ih =>
    intro i j h h2 hs
    have hl : S.length + 1 ≤ i := h
    have hl2 : S.length + 1 ≤ j := h2
    refine ⟨?_, ?_, ih (by omega) (by omega) hs.2.2⟩
    · show upd a28 i v S.length = x.1
      unfold upd; rw [if_neg (by omega)]; exact hs.1
    · show upd a29 j r S.length = bI x.2
      unfold upd; rw [if_neg (by omega)]; exact hs.2.1
theorem VS_push {a28 a29 : Nat → Int32} {v r : Int32} {b : Bool} {S : List VR} (h : VS a28 a29 S) (hr : r = bI b) : VS (upd a28 S.length v) (upd a29 S.length r) ((v, b) :: S) := by
  refine ⟨?_, ?_, VS_up (Nat.le_refl _) (Nat.le_refl _) h⟩
  · show upd a28 S.length v S.length = v
    unfold upd; rw [if_pos rfl]
  · show upd a29 S.length r S.length = bI b
    unfold upd; rw [if_pos rfl]; exact hr
theorem up_same {f : Nat → Int32} {i : Nat} : upd f i (f i) = f := by
  funext j; unfold upd; by_cases h : j = i
  · rw [if_pos h, h]
  · rw [if_neg h]
theorem nb0 : vp_nar .boolean (0 : Int32) = 0 := by decide
theorem nb1 : vp_nar .boolean (1 : Int32) = 1 := by decide
theorem nbb (b : Bool) : vp_nar .boolean (bI b) = bI b := by cases b <;> decide
/-- a join or a sign on the two uppermost -/
theorem does_of {c : Int} {p0 q : Int32} {a28 a29 : Nat → Int32} {x y : VR} {S : List VR} (hc : p0.toInt = c) (h2 : 2 < c) (hq : q.toInt = (S.length : Int)) (hl : S.length ≤ 300) (h : VS a28 a29 (y :: x :: S)) : VS (F_m12_does p0 q a28 a29).1 (F_m12_does p0 q a28 a29).2 (dox c x y :: S) := by
  obtain ⟨y1, y2, x1, x2, hS⟩ := h
  have y1 : a28 (S.length + 1) = y.1 := y1
  have y2 : a29 (S.length + 1) = bI y.2 := y2
  have e1 : q.toNatClampNeg = S.length := nc hq
  have e2 : (q + (1 : Int32)).toNatClampNeg = S.length + 1 := nc (suc_of hq (by omega))
  have ep : p0 = Int32.ofInt c := by rw [← hc]; exact (Int32.ofInt_toInt p0).symm
  obtain ⟨xv, xr⟩ := x
  obtain ⟨yv, yr⟩ := y
  have x1 : a28 S.length = xv := x1
  have x2 : a29 S.length = bI xr := x2
  have y1 : a28 (S.length + 1) = yv := y1
  have y2 : a29 (S.length + 1) = bI yr := y2
  have keep : VS a28 a29 ((xv, xr) :: S) := ⟨x1, x2, hS⟩
  rw [E_m12_does, e1, e2, x1, x2, y1, y2, nbb]
  unfold dox
  by_cases w1 : c = 38
  · rw [if_pos (by omega), if_pos w1]
    cases xr with
    | true => rw [if_pos (show (bI true).toInt ≠ 0 by decide), if_pos (Or.inl rfl)]; exact keep
    | false =>
      rw [if_neg (show ¬ (bI false).toInt ≠ 0 by decide), if_neg (show ¬ p0.toInt ≠ 38 by omega)]
      by_cases w : xv.toInt = 1
      · rw [if_pos (show xv.toInt = (1 : Int32).toInt from w), if_neg (fun z => z.elim (fun z => by cases z) (fun z => z w))]
        exact VS_push hS rfl
      · rw [if_neg (show ¬ xv.toInt = (1 : Int32).toInt from w), if_pos (Or.inr w)]; exact keep
  · rw [if_neg (show ¬ p0.toInt = 38 by omega), if_neg w1]
    by_cases w2 : c = 124
    · rw [if_neg (show ¬ p0.toInt ≠ 124 by omega), if_pos w2]
      cases xr with
      | true => rw [if_pos (show (bI true).toInt ≠ 0 by decide), if_pos (Or.inl rfl)]; exact keep
      | false =>
        rw [if_neg (show ¬ (bI false).toInt ≠ 0 by decide), if_pos (show p0.toInt ≠ 38 by omega)]
        by_cases w : xv.toInt = 0
        · rw [if_pos (show xv.toInt = (0 : Int32).toInt from w), if_neg (fun z => z.elim (fun z => by cases z) (fun z => z w))]
          exact VS_push hS rfl
        · rw [if_neg (show ¬ xv.toInt = (0 : Int32).toInt from w), if_pos (Or.inr w)]; exact keep
    · rw [if_pos (show p0.toInt ≠ 124 by omega), if_neg w2, ← ep]
      cases xr with
      | true =>
        rw [if_pos (show (bI true).toInt ≠ 0 by decide)]
        exact VS_push hS nb1
      | false =>
        rw [if_neg (show ¬ (bI false).toInt ≠ 0 by decide)]
        cases yr with
        | true =>
          rw [if_pos (show (bI true).toInt ≠ 0 by decide)]
          exact VS_push hS nb1
        | false =>
          rw [if_neg (show ¬ (bI false).toInt ≠ 0 by decide)]
          by_cases w3 : c = 47
          · rw [if_pos (show p0.toInt = 47 by omega)]
            subst w3
            by_cases w : yv.toInt ≠ 0
            · rw [if_pos w]
              have : (false || false || ((decide ((47 : Int) = 47) || decide ((47 : Int) = 37)) && decide (yv.toInt = 0))) = false := by rw [decide_eq_false w]; rfl
              show VS _ _ ((_, (false || false || ((decide ((47 : Int) = 47) || decide ((47 : Int) = 37)) && decide (yv.toInt = 0)))) :: S)
              rw [this]
              exact VS_push hS nb0
            · rw [if_neg w]
              have : (false || false || ((decide ((47 : Int) = 47) || decide ((47 : Int) = 37)) && decide (yv.toInt = 0))) = true := by rw [decide_eq_true (by omega : yv.toInt = 0)]; rfl
              show VS _ _ ((_, (false || false || ((decide ((47 : Int) = 47) || decide ((47 : Int) = 37)) && decide (yv.toInt = 0)))) :: S)
              rw [this]
              exact VS_push hS nb1
          · rw [if_neg (show ¬ p0.toInt = 47 by omega)]
            by_cases w4 : c = 37
            · rw [if_neg (show ¬ p0.toInt ≠ 37 by omega)]
              subst w4
              by_cases w : yv.toInt ≠ 0
              · rw [if_pos w]
                have : (false || false || ((decide ((37 : Int) = 47) || decide ((37 : Int) = 37)) && decide (yv.toInt = 0))) = false := by rw [decide_eq_false w]; rfl
                show VS _ _ ((_, (false || false || ((decide ((37 : Int) = 47) || decide ((37 : Int) = 37)) && decide (yv.toInt = 0)))) :: S)
                rw [this]
                exact VS_push hS nb0
              · rw [if_neg w]
                have : (false || false || ((decide ((37 : Int) = 47) || decide ((37 : Int) = 37)) && decide (yv.toInt = 0))) = true := by rw [decide_eq_true (by omega : yv.toInt = 0)]; rfl
                show VS _ _ ((_, (false || false || ((decide ((37 : Int) = 47) || decide ((37 : Int) = 37)) && decide (yv.toInt = 0)))) :: S)
                rw [this]
                exact VS_push hS nb1
            · rw [if_pos (show p0.toInt ≠ 37 by omega)]
              have : (false || false || ((decide (c = 47) || decide (c = 37)) && decide (yv.toInt = 0))) = false := by rw [decide_eq_false w3, decide_eq_false w4]; rfl
              show VS _ _ ((_, (false || false || ((decide (c = 47) || decide (c = 37)) && decide (yv.toInt = 0)))) :: S)
              rw [this]
              exact VS_push hS nb0
