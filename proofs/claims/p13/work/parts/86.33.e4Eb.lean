section WRT
variable {p0 p1 p2 i4 i6 z : Int32} {a2 a3 a4 a8 a15 a16 a17 a18 a19 a20 a21 a24 a25 a26 : Nat → Int32} {ev : Int → Int32}
theorem ex1_len {x : IN} {S S' : List VR} (h : ex1 ev x S = some S') : S'.length ≤ S.length + 1 := by
  unfold ex1 at h
  split at h
  · cases h; exact Nat.le_refl _
  · split at h
    · cases h; exact Nat.le_refl _
    · split at h
      · cases S with
        | nil => cases h
        | cons a S => cases h; show S.length + 1 ≤ S.length + 1 + 1; omega
      · cases S with
        | nil => cases h
        | cons a S =>
          cases S with
          | nil => cases h
          | cons b S => cases h; show S.length + 1 ≤ S.length + 1 + 1 + 1; omega
theorem w_run (hev : ∀ u : Int32, F_m12_valueOf u p1 p2 i4 i6 a2 a3 a4 a8 a15 a16 a17 a18 a19 a20 a21 = ev u.toInt) {en : Nat} (hen : (z + (a24 p0.toNatClampNeg)).toInt = (en : Int)) (hen2 : en ≤ 100000) :
    ∀ (W : List IN) (S S' : List VR) (f i : Nat) (x14 x15 : Int32) (a28 a29 : Nat → Int32), exo ev W S = some S' → (∀ x ∈ W, 0 ≤ x.1) → VS a28 a29 S → x14.toInt = (S.length : Int) → x15.toInt = (i : Int) → (∀ (k : Nat) (x : IN), W[k]? = some x → (a25 (i + k)).toInt = x.1 ∧ (a26 (i + k)).toInt = x.2) → S.length + W.length ≤ 200 → i + W.length ≤ en →
    ∃ (y14 y15 : Int32) (c28 c29 : Nat → Int32), f_m12_worth_j13 p0 p1 p2 i4 i6 a2 a3 a4 a8 a15 a16 a17 a18 a19 a20 a21 a24 a25 a26 z (f + W.length) x14 x15 a28 a29 = f_m12_worth_j13 p0 p1 p2 i4 i6 a2 a3 a4 a8 a15 a16 a17 a18 a19 a20 a21 a24 a25 a26 z f y14 y15 c28 c29 ∧ VS c28 c29 S' ∧ y14.toInt = (S'.length : Int) ∧ y15.toInt = ((i + W.length : Nat) : Int) := by
  intro W
  induction W with
  | nil =>
    intro S S' f i x14 x15 a28 a29 he _ hV h14 h15 _ _ _
    have he : some S = some S' := he
    cases he
    exact ⟨x14, x15, a28, a29, rfl, hV, h14, h15⟩
  | cons x W ih =>
    intro S S' f i x14 x15 a28 a29 he hpos hV h14 h15 hc hl hi
    have hl' : S.length + (W.length + 1) ≤ 200 := hl
    have hi' : i + (W.length + 1) ≤ en := hi
    have he : (ex1 ev x S).bind (exo ev W) = some S' := he
    obtain ⟨S1, e1, e2⟩ : ∃ S1, ex1 ev x S = some S1 ∧ exo ev W S1 = some S' := by
      cases e : ex1 ev x S with
      | none => rw [e] at he; cases he
      | some S1 => rw [e] at he; exact ⟨S1, rfl, he⟩
    have hlen := ex1_len e1
    obtain ⟨g1, g2⟩ := hc 0 x rfl
    have g1 : (a25 i).toInt = x.1 := g1
    have g2 : (a26 i).toInt = x.2 := g2
    have hx0 := hpos x (List.mem_cons_self ..)
    have o1 := co1
    have h15' := toInt_add h15 co1 (by omega) (by omega)
    have h14' := toInt_add h14 co1 (by omega) (by omega)
    have hc' : ∀ (k : Nat) (y : IN), W[k]? = some y → (a25 (i + 1 + k)).toInt = y.1 ∧ (a26 (i + 1 + k)).toInt = y.2 := by
      intro k y hk
      have := hc (k + 1) y hk
      rw [show i + 1 + k = i + (k + 1) by omega]; exact this
    have ef : f + (x :: W).length = (f + W.length) + 1 := rfl
    have key : ∃ (b14 : Int32) (c28 c29 : Nat → Int32), f_m12_worth_j13 p0 p1 p2 i4 i6 a2 a3 a4 a8 a15 a16 a17 a18 a19 a20 a21 a24 a25 a26 z ((f + W.length) + 1) x14 x15 a28 a29 = f_m12_worth_j13 p0 p1 p2 i4 i6 a2 a3 a4 a8 a15 a16 a17 a18 a19 a20 a21 a24 a25 a26 z (f + W.length) b14 (x15 + Int32.ofInt 1) c28 c29 ∧ VS c28 c29 S1 ∧ b14.toInt = (S1.length : Int) := by
      rw [S_m12_worth_j13, if_neg (by omega), nc h15]
      obtain ⟨xc, xa⟩ := x
      have g1 : (a25 i).toInt = xc := g1
      have g2 : (a26 i).toInt = xa := g2
      have hx0 : 0 ≤ xc := hx0
      unfold ex1 at e1
      dsimp only at e1
      by_cases w0 : xc = 0
      · rw [if_pos w0] at e1
        cases e1
        rw [if_pos (by omega), if_pos (by omega), if_neg (by omega), nc h14]
        have ev0 : a26 i = Int32.ofInt xa := by rw [← g2]; exact (Int32.ofInt_toInt _).symm
        refine ⟨_, _, _, rfl, ?_, by show _ = ((S.length + 1 : Nat) : Int); omega⟩
        rw [ev0]
        exact VS_push hV nb0
      · rw [if_neg w0] at e1
        by_cases w1 : xc = 1
        · rw [if_pos w1] at e1
          cases e1
          rw [if_pos (by omega), if_pos (by omega), if_pos (by omega), nc h14, hev, g2]
          exact ⟨_, _, _, rfl, VS_push hV nb0, by show _ = ((S.length + 1 : Nat) : Int); omega⟩
        · rw [if_neg w1] at e1
          by_cases w2 : xc = 2
          · rw [if_pos w2] at e1
            cases S with
            | nil => cases e1
            | cons a S =>
              cases e1
              have h14n : x14.toInt = ((S.length + 1 : Nat) : Int) := h14
              have hp := pred_of h14n (by omega)
              rw [if_pos (by omega), if_neg (by omega), nc hp]
              obtain ⟨v1, v2, v3⟩ := hV
              refine ⟨_, _, _, rfl, ?_, h14⟩
              rw [v1]
              refine ⟨?_, v2, ?_⟩
              · show upd a28 S.length (1 - a.1) S.length = 1 - a.1
                unfold upd; rw [if_pos rfl]
              · have := VS_up (v := 1 - a.1) (r := a29 S.length) (Nat.le_refl S.length) (Nat.le_refl S.length) v3
                rw [up_same] at this; exact this
          · rw [if_neg w2] at e1
            cases S with
            | nil => cases e1
            | cons b S =>
              cases S with
              | nil => cases e1
              | cons a S =>
                cases e1
                have h14n : x14.toInt = ((S.length + 1 + 1 : Nat) : Int) := h14
                have hm := toInt_add h14n (show (Int32.ofInt (-1)).toInt = -1 by decide) (by omega) (by omega)
                generalize x14 + Int32.ofInt (-1) = y at hm ⊢
                have hm' : y.toInt = ((S.length + 1 : Nat) : Int) := by omega
                have hp := pred_of hm' (by omega)
                have hl2 : S.length + 1 + 1 + (W.length + 1) ≤ 200 := hl'
                rw [if_neg (by omega)]
                exact ⟨_, _, _, rfl, does_of g1 (by omega) hp (by omega) hV, by show _ = ((S.length + 1 : Nat) : Int); exact hm'⟩
    obtain ⟨b14, c28, c29, k1, k2, k3⟩ := key
    obtain ⟨y14, y15, d28, d29, r1, r2, r3, r4⟩ := ih S1 S' f (i + 1) b14 (x15 + Int32.ofInt 1) c28 c29 e2 (fun y hy => hpos y (List.mem_cons_of_mem _ hy)) k2 k3 (by omega) hc' (by omega) (by omega)
    refine ⟨y14, y15, d28, d29, ?_, r2, r3, ?_⟩
    · rw [ef, k1, r1]
    · rw [r4]; show ((i + 1 + W.length : Nat) : Int) = ((i + (W.length + 1) : Nat) : Int); omega
/-- the whole code, from an empty stack -/
theorem w_all (hev : ∀ u : Int32, F_m12_valueOf u p1 p2 i4 i6 a2 a3 a4 a8 a15 a16 a17 a18 a19 a20 a21 = ev u.toInt) {W : List IN} {V R : Bool} {i : Nat} {x15 : Int32} {a28 a29 : Nat → Int32} (hen : (z + (a24 p0.toNatClampNeg)).toInt = ((i + W.length : Nat) : Int)) (he : exo ev W [] = some [(bI V, R)]) (hpos : ∀ x ∈ W, 0 ≤ x.1) (h15 : x15.toInt = (i : Int)) (hc : ∀ (k : Nat) (x : IN), W[k]? = some x → (a25 (i + k)).toInt = x.1 ∧ (a26 (i + k)).toInt = x.2) (hl : W.length ≤ 160) (hi : i ≤ 10000) :
    (f_m12_worth_j13 p0 p1 p2 i4 i6 a2 a3 a4 a8 a15 a16 a17 a18 a19 a20 a21 a24 a25 a26 z 161 0 x15 a28 a29).1 = if R = true then 2 else bI V := by
  obtain ⟨y14, y15, c28, c29, r1, r2, r3, r4⟩ := w_run (p0 := p0) (z := z) hev hen (by omega) W [] [(bI V, R)] (161 - W.length) i 0 x15 a28 a29 he hpos trivial c0 h15 hc (by show 0 + W.length ≤ 200; omega) (Nat.le_refl _)
  rw [show 161 - W.length + W.length = 161 by omega] at r1
  obtain ⟨f, hf⟩ : ∃ f, 161 - W.length = f + 1 := ⟨160 - W.length, by omega⟩
  rw [r1, hf, S_m12_worth_j13, if_pos (by omega)]
  obtain ⟨v1, v2, _⟩ := r2
  have v1 : c28 0 = bI V := v1
  have v2 : c29 0 = bI R := v2
  have e0 : ((0 : Int32)).toNatClampNeg = 0 := rfl
  rw [e0, v1, v2]
  cases R with
  | true => rw [if_neg (show ¬ (bI true).toInt = 0 by decide)]; rfl
  | false => rw [if_pos (show (bI false).toInt = 0 by decide)]; rfl
end WRT
