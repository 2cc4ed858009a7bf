/-! the class's conditions come to what the code comes to -/
/-- a join that waits: what stands on the stack, whether it is REFUSED, what the class holds -/
abbrev PJ := Option (Bool × Bool × Bool)
noncomputable def jW : PJ → Bool → Bool
  | none, h => h
  | some z, h => z.2.2 && h
def jA : PJ → Bool
  | none => true
  | some z => z.2.2
noncomputable def oW : PJ → Bool → Bool
  | none, h => h
  | some z, h => z.2.2 || h
def oA : PJ → Bool
  | none => true
  | some z => !z.2.2
def jr : PJ → Bool
  | none => false
  | some z => z.2.1
def jok (A : Bool) : PJ → Prop
  | none => True
  | some z => A = true → z.2.1 = false → z.2.2 = z.1
noncomputable def jS : PJ → List VR → List VR
  | none, S => S
  | some z, S => (bI z.1, z.2.1) :: S
def jL (c : Int) : PJ → List Int
  | none => []
  | some _ => [c]
/-- & and | on (holds, REFUSED) -/
noncomputable def jV : PJ → Bool × Bool → Bool × Bool
  | none, x => x
  | some z, x => if z.2.1 || !z.1 then (z.1, z.2.1) else x
noncomputable def oVb : PJ → Bool × Bool → Bool × Bool
  | none, x => x
  | some z, x => if z.2.1 || z.1 then (z.1, z.2.1) else x
theorem bI_i (b : Bool) : (bI b).toInt = if b then 1 else 0 := by cases b <;> decide
theorem dox_and {a b c d : Bool} : dox 38 (bI a, b) (bI c, d) = (bI (if b || !a then (a, b) else (c, d)).1, (if b || !a then (a, b) else (c, d)).2) := by
  unfold dox
  rw [if_pos rfl]
  cases a <;> cases b <;> rfl
theorem dox_or {a b c d : Bool} : dox 124 (bI a, b) (bI c, d) = (bI (if b || a then (a, b) else (c, d)).1, (if b || a then (a, b) else (c, d)).2) := by
  unfold dox
  rw [if_neg (by decide), if_pos rfl]
  cases a <;> cases b <;> rfl
theorem exo_j {ev : Int → Int32} {z : PJ} {x : Bool × Bool} {S : List VR} : exo ev (em (jL 38 z)) ((bI x.1, x.2) :: jS z S) = some ((bI (jV z x).1, (jV z x).2) :: S) := by
  cases z with
  | none => rfl
  | some q =>
    show exo ev [(38, 0)] ((bI x.1, x.2) :: (bI q.1, q.2.1) :: S) = _
    rw [exo_cons (ex_op (by decide)), dox_and]; rfl
theorem exo_r {ev : Int → Int32} {z : PJ} {x : Bool × Bool} {S : List VR} : exo ev (em (jL 124 z)) ((bI x.1, x.2) :: jS z S) = some ((bI (oVb z x).1, (oVb z x).2) :: S) := by
  cases z with
  | none => rfl
  | some q =>
    show exo ev [(124, 0)] ((bI x.1, x.2) :: (bI q.1, q.2.1) :: S) = _
    rw [exo_cons (ex_op (by decide)), dox_or]; rfl
theorem jR_o {ap op : PJ} : jR false (jL 38 ap ++ jL 124 op) = jL 124 op ∧ jE false (jL 38 ap ++ jL 124 op) = em (jL 38 ap) := by
  cases ap <;> cases op <;> exact ⟨rfl, rfl⟩
/-- behind an &: what the class holds, and its flag -/
theorem b_and {A1 B0 rh Vh Wh : Bool} {z : PJ} (h1 : jok A1 z) (h2 : (A1 && jA z) = true → rh = false → Wh = Vh) :
    ((B0 || (A1 && jr z)) || ((A1 && jA z) && rh)) = (B0 || (A1 && (jV z (Vh, rh)).2)) ∧ (A1 = true → (jV z (Vh, rh)).2 = false → jW z Wh = (jV z (Vh, rh)).1) := by
  cases z with
  | none =>
    refine ⟨by show ((B0 || (A1 && false)) || ((A1 && true) && rh)) = (B0 || (A1 && rh)); cases A1 <;> cases B0 <;> cases rh <;> rfl, fun a b => h2 (by rw [a]; rfl) b⟩
  | some q =>
    obtain ⟨q1, q2, q3⟩ := q
    have h1 : A1 = true → q2 = false → q3 = q1 := h1
    have h2 : (A1 && q3) = true → rh = false → Wh = Vh := h2
    show ((B0 || (A1 && q2)) || ((A1 && q3) && rh)) = (B0 || (A1 && (if q2 || !q1 then (q1, q2) else (Vh, rh)).2)) ∧ (A1 = true → (if q2 || !q1 then (q1, q2) else (Vh, rh)).2 = false → (q3 && Wh) = (if q2 || !q1 then (q1, q2) else (Vh, rh)).1)
    revert h1 h2
    cases A1 <;> cases B0 <;> cases rh <;> cases Vh <;> cases Wh <;> cases q1 <;> cases q2 <;> cases q3 <;> decide
theorem b_or {A B0 rx Vx Wx : Bool} {z : PJ} (h1 : jok A z) (h2 : (A && oA z) = true → rx = false → Wx = Vx) :
    ((B0 || (A && jr z)) || ((A && oA z) && rx)) = (B0 || (A && (oVb z (Vx, rx)).2)) ∧ (A = true → (oVb z (Vx, rx)).2 = false → oW z Wx = (oVb z (Vx, rx)).1) := by
  cases z with
  | none =>
    refine ⟨by show ((B0 || (A && false)) || ((A && true) && rx)) = (B0 || (A && rx)); cases A <;> cases B0 <;> cases rx <;> rfl, fun a b => h2 (by rw [a]; rfl) b⟩
  | some q =>
    obtain ⟨q1, q2, q3⟩ := q
    have h1 : A = true → q2 = false → q3 = q1 := h1
    have h2 : (A && !q3) = true → rx = false → Wx = Vx := h2
    show ((B0 || (A && q2)) || ((A && !q3) && rx)) = (B0 || (A && (if q2 || q1 then (q1, q2) else (Vx, rx)).2)) ∧ (A = true → (if q2 || q1 then (q1, q2) else (Vx, rx)).2 = false → (q3 || Wx) = (if q2 || q1 then (q1, q2) else (Vx, rx)).1)
    revert h1 h2
    cases A <;> cases B0 <;> cases rx <;> cases Vx <;> cases Wx <;> cases q1 <;> cases q2 <;> cases q3 <;> decide
section EVC
variable {T : Nat → Int} {n ptn : Nat} {ptc : Nat → Int32} {i17 i18 i19 i22 i23 i24 : Int32}
section STEP
variable {u1 c y rf : Int32} {m : Nat} {x : Bool} {g : Int32 → Int32 → Int32 → Int32 → Int32 → Int32 → Int32 → Int32 → Int32 → Int32 → Nat → (Nat → Int32) → Int32 × Int32 × Int32}
theorem pj_n {u0 z : Int32} (h : ¬ (F_x6_sign y ptn ptc).toInt = 38) : f_x6_reckonPart_j12 u0 u1 i17 i18 i19 i22 i23 i24 ptn ptc g (m + 1) z c y rf = (z, y, rf) := by
  rw [S_x6_reckonPart_j12]
  by_cases hc : c.toInt ≥ 160
  · rw [if_pos hc]
  · rw [if_neg hc, if_pos h]
theorem cj_n {u0 z : Int32} (h : ¬ (F_x6_sign y ptn ptc).toInt = 124) : f_x6_reckonCondition_j12 u0 u1 i17 i18 i19 i22 i23 i24 ptn ptc g (m + 1) z c y rf = (z, y, rf) := by
  rw [S_x6_reckonCondition_j12]
  by_cases hc : c.toInt ≥ 160
  · rw [if_pos hc]
  · rw [if_neg hc, if_pos h]
theorem t1 : ¬ (bI true).toInt = 0 := by decide
theorem t0 : (bI false).toInt = 0 := by decide
theorem t1' : (bI true).toInt ≠ 0 := by decide
theorem t0' : ¬ (bI false).toInt ≠ 0 := by decide
theorem pj_y {A h : Bool} {q rg : Int32} (hs : (F_x6_sign y ptn ptc).toInt = 38) (hc : c.toInt < 160) (hg : g (bI (A && x)) u1 i17 i18 i19 i22 i23 i24 (y + 1) rf ptn ptc = (bI h, q, rg)) : f_x6_reckonPart_j12 (bI A) u1 i17 i18 i19 i22 i23 i24 ptn ptc g (m + 1) (bI x) c y rf = f_x6_reckonPart_j12 (bI A) u1 i17 i18 i19 i22 i23 i24 ptn ptc g m (bI (x && h)) (c + Int32.ofInt 1) q rg := by
  rw [S_x6_reckonPart_j12, if_neg (by omega), if_neg (fun z => z hs)]
  cases A with
  | false =>
    have hg : g 0 u1 i17 i18 i19 i22 i23 i24 (y + 1) rf ptn ptc = (bI h, q, rg) := by cases x <;> exact hg
    rw [if_pos t0, hg]
    dsimp only
    cases x with
    | false => rw [if_pos t0]; rfl
    | true =>
      rw [if_neg t1]
      cases h with
      | false => rw [if_pos t0]; rfl
      | true => rw [if_neg t1]; rfl
  | true =>
    rw [if_neg t1]
    cases x with
    | false =>
      have hg : g 0 u1 i17 i18 i19 i22 i23 i24 (y + 1) rf ptn ptc = (bI h, q, rg) := hg
      rw [if_pos t0, hg]
      dsimp only
      rw [if_pos t0]; rfl
    | true =>
      have hg : g 1 u1 i17 i18 i19 i22 i23 i24 (y + 1) rf ptn ptc = (bI h, q, rg) := hg
      rw [if_neg t1, hg]
      dsimp only
      rw [if_neg t1]
      cases h with
      | false => rw [if_pos t0]; rfl
      | true => rw [if_neg t1]; rfl
theorem cj_y {A h : Bool} {q rg : Int32} (hs : (F_x6_sign y ptn ptc).toInt = 124) (hc : c.toInt < 160) (hg : g (bI (A && !x)) u1 i17 i18 i19 i22 i23 i24 (y + 1) rf ptn ptc = (bI h, q, rg)) : f_x6_reckonCondition_j12 (bI A) u1 i17 i18 i19 i22 i23 i24 ptn ptc g (m + 1) (bI x) c y rf = f_x6_reckonCondition_j12 (bI A) u1 i17 i18 i19 i22 i23 i24 ptn ptc g m (bI (x || h)) (c + Int32.ofInt 1) q rg := by
  rw [S_x6_reckonCondition_j12, if_neg (by omega), if_neg (fun z => z hs)]
  cases A with
  | false =>
    have hg : g 0 u1 i17 i18 i19 i22 i23 i24 (y + 1) rf ptn ptc = (bI h, q, rg) := by cases x <;> exact hg
    rw [if_pos t0, hg]
    dsimp only
    cases x with
    | true => rw [if_pos t1']; rfl
    | false =>
      rw [if_neg t0']
      cases h with
      | false => rw [if_pos t0]; rfl
      | true => rw [if_neg t1]; rfl
  | true =>
    rw [if_neg t1]
    cases x with
    | true =>
      have hg : g 0 u1 i17 i18 i19 i22 i23 i24 (y + 1) rf ptn ptc = (bI h, q, rg) := hg
      rw [if_pos t1', hg]
      dsimp only
      rw [if_pos t1']; rfl
    | false =>
      have hg : g 1 u1 i17 i18 i19 i22 i23 i24 (y + 1) rf ptn ptc = (bI h, q, rg) := hg
      rw [if_neg t0', hg]
      dsimp only
      rw [if_neg t0']
      cases h with
      | false => rw [if_pos t0]; rfl
      | true => rw [if_neg t1]; rfl
end STEP
noncomputable def CLp (A : Bool) (u1 i17 i18 i19 i22 i23 i24 : Int32) (ptn : Nat) (ptc : Nat → Int32) (d : Nat) (op : PJ) (m2 : Nat) (c2 : Int32) (x : Bool) (y rf : Int32) : Int32 × Int32 × Int32 :=
  f_x6_reckonCondition_j12 (bI A) u1 i17 i18 i19 i22 i23 i24 ptn ptc (G_x6_reckonPart d) m2 (bI (oW op x)) c2 y rf
theorem gP_e {d : Nat} {u0 u1 y rf : Int32} : G_x6_reckonPart d u0 u1 i17 i18 i19 i22 i23 i24 y rf ptn ptc = f_x6_reckonPart_j12 u0 u1 i17 i18 i19 i22 i23 i24 ptn ptc (G_x6_reckonPiece d) 161 (G_x6_reckonPiece d u0 u1 i17 i18 i19 i22 i23 i24 y rf ptn ptc).1 0 (G_x6_reckonPiece d u0 u1 i17 i18 i19 i22 i23 i24 y rf ptn ptc).2.1 (G_x6_reckonPiece d u0 u1 i17 i18 i19 i22 i23 i24 y rf ptn ptc).2.2 := rfl
theorem gC_e {d : Nat} {u0 u1 y rf : Int32} : G_x6_reckonCondition d u0 u1 i17 i18 i19 i22 i23 i24 y rf ptn ptc = f_x6_reckonCondition_j12 u0 u1 i17 i18 i19 i22 i23 i24 ptn ptc (G_x6_reckonPart d) 161 (G_x6_reckonPart d u0 u1 i17 i18 i19 i22 i23 i24 y rf ptn ptc).1 0 (G_x6_reckonPart d u0 u1 i17 i18 i19 i22 i23 i24 y rf ptn ptc).2.1 (G_x6_reckonPart d u0 u1 i17 i18 i19 i22 i23 i24 y rf ptn ptc).2.2 := rfl
def EP2 (T : Nat → Int) (n ptn : Nat) (ptc : Nat → Int32) (i17 i18 i19 i22 i23 i24 : Int32) (k : Nat) : Prop := ∀ (p o d : Nat) (A B : Bool) (u1 y : Int32), (sp T k 2 o p).1 = 0 → p ≤ n → 4 * (n + 1 - p) + 2 < k → o + d = 7 → 1 ≤ o → o ≤ 6 → u1.toInt = (o : Int) → y.toInt = (p : Int) →
  ∃ (V r W : Bool) (q : Int32), (∀ st, exo (evl i17 i18 i19 i22 i23 i24) (cm T k 2 o [] p) st = some ((bI V, r) :: st)) ∧ G_x6_reckonPiece d (bI A) u1 i17 i18 i19 i22 i23 i24 y (bI B) ptn ptc = (bI W, q, bI (B || (A && r))) ∧ (A = true → r = false → W = V) ∧ q.toInt = ((sp T k 2 o p).2 : Int)
/-- from a piece on: what the class comes to with the joins that wait, and what the code comes to -/
def EC3 (T : Nat → Int) (n ptn : Nat) (ptc : Nat → Int32) (i17 i18 i19 i22 i23 i24 : Int32) (k : Nat) : Prop := ∀ (p o d m1 m2 k1 k2 : Nat) (ap op : PJ) (A B B0 : Bool) (u1 y c1 c2 : Int32), jok (A && oA op) ap → jok A op → (sp T k 3 o p).1 = 0 → p ≤ n → 4 * (n + 1 - p) + 3 < k → o + d = 7 → 1 ≤ o → o ≤ 6 → u1.toInt = (o : Int) → y.toInt = (p : Int) → c1.toInt = (k1 : Int) → c2.toInt = (k2 : Int) → k1 ≤ p → k2 ≤ p → 161 ≤ m1 + k1 → 161 ≤ m2 + k2 → B = ((B0 || (A && jr op)) || ((A && oA op) && jr ap)) →
  ∃ (V R W h : Bool) (q qh rh x3 y3 r3 : Int32), (∀ st, exo (evl i17 i18 i19 i22 i23 i24) (cm T k 3 o (jL 38 ap ++ jL 124 op) p) (jS ap (jS op st)) = some ((bI V, R) :: st)) ∧ G_x6_reckonPiece d (bI ((A && oA op) && jA ap)) u1 i17 i18 i19 i22 i23 i24 y (bI B) ptn ptc = (bI h, qh, rh) ∧
    f_x6_reckonPart_j12 (bI (A && oA op)) u1 i17 i18 i19 i22 i23 i24 ptn ptc (G_x6_reckonPiece d) m1 (bI (jW ap h)) c1 qh rh = (x3, y3, r3) ∧ (∃ x4 : Bool, x3 = bI x4 ∧ CLp A u1 i17 i18 i19 i22 i23 i24 ptn ptc d op m2 c2 x4 y3 r3 = (bI W, q, bI (B0 || (A && R)))) ∧ (A = true → R = false → W = V) ∧ q.toInt = ((sp T k 3 o p).2 : Int)
theorem e_piece {k : Nat} (hT : TXT T n) (hx : TXE T n ptn ptc) (ih : EP2 T n ptn ptc i17 i18 i19 i22 i23 i24 k) (ihc : EC3 T n ptn ptc i17 i18 i19 i22 i23 i24 k) : EP2 T n ptn ptc i17 i18 i19 i22 i23 i24 (k + 1) := by
  have h160 := hT.1
  intro p o d A B u1 y hs hp hk hod h1 h6 hu hy
  have hsg := sg6 hT hx hy
  have eG : G_x6_reckonPiece d (bI A) u1 i17 i18 i19 i22 i23 i24 y (bI B) ptn ptc = B_x6_reckonPiece (bI A) u1 i17 i18 i19 i22 i23 i24 y (bI B) ptn ptc (G_x6_reckonSum d) (P_x6_reckonPiece d) (P_x6_reckonCondition d) := rfl
  rw [eG, E_x6_reckonPiece, if_pos (by omega)]
  rw [sp_2] at hs ⊢
  rw [cm_2]
  by_cases h33 : T p = 33
  · have hpn := T_in hT (p := p) (by omega)
    rw [if_pos h33] at hs ⊢
    rw [if_pos h33, if_neg (show ¬ (F_x6_sign y ptn ptc).toInt ≠ 33 by omega)]
    by_cases ho : 6 ≤ o
    · rw [if_pos ho] at hs; exact absurd (show -5000 - (p : Int) = 0 from hs) (by omega)
    · rw [if_neg ho] at hs ⊢
      obtain ⟨V, r, W, q, e1, e2, e3, e4⟩ := ih (p + 1) (o + 1) (d - 1) A B (u1 + 1) (y + 1) hs (by omega) (by omega) (by omega) (by omega) (by omega) (suc_of hu (by omega)) (suc_of hy (by omega))
      have eS : P_x6_reckonPiece d (bI A) (u1 + 1) i17 i18 i19 i22 i23 i24 (y + 1) (bI B) ptn ptc = (bI W, q, bI (B || (A && r))) := by
        rw [P_x6_reckonPiece_pred (by omega)]; exact e2
      refine ⟨!V, r, !W, q, fun st => ?_, ?_, fun a b => by rw [e3 a b], e4⟩
      · rw [exo_then (e1 st), exo_cons ex_not]
        show some ((1 - bI V, r) :: st) = _
        have : (1 : Int32) - bI V = bI (!V) := by cases V <;> decide
        rw [this]
      · rw [eS]
        dsimp only
        cases W with
        | true => first
          | rw [if_neg t1]; rfl
          | rw [if_pos t1']; rfl
        | false => first
          | rw [if_pos t0]; rfl
          | rw [if_neg t0']; rfl
  · rw [if_neg h33] at hs ⊢
    rw [if_neg h33, if_pos (show (F_x6_sign y ptn ptc).toInt ≠ 33 by omega)]
    by_cases h40 : T p = 40
    · have hpn := T_in hT (p := p) (by omega)
      rw [if_pos h40] at hs ⊢
      rw [if_pos h40, if_neg (show ¬ (F_x6_sign y ptn ptc).toInt ≠ 40 by omega)]
      by_cases ho : 6 ≤ o
      · rw [if_pos ho] at hs; exact absurd (show -5000 - (p : Int) = 0 from hs) (by omega)
      · rw [if_neg ho] at hs ⊢
        have g1 := seq_0 hs
        rw [seq_y g1] at hs ⊢
        have hs : (if T (sp T k 3 (o + 1) (p + 1)).2 = 41 then (0, (sp T k 3 (o + 1) (p + 1)).2 + 1) else (-1000 - ((sp T k 3 (o + 1) (p + 1)).2 : Int), (sp T k 3 (o + 1) (p + 1)).2) : Int × Nat).1 = 0 := hs
        obtain ⟨V, R, W, h, q, qh, rh, x3, y3, r3, e1, e2, e3, ⟨x4, e4, e5⟩, e6, e7⟩ := ihc (p + 1) (o + 1) (d - 1) 161 161 0 0 none none A B B (u1 + 1) (y + 1) 0 0 trivial trivial g1 (by omega) (by omega) (by omega) (by omega) (by omega) (suc_of hu (by omega)) (suc_of hy (by omega)) c0 c0 (by omega) (by omega) (by omega) (by omega) (by show B = ((B || (A && false)) || ((A && true) && false)); cases A <;> cases B <;> rfl)
        have eA : (A && oA none) = A := by show (A && true) = A; cases A <;> rfl
        have eA2 : ((A && oA none) && jA none) = A := by rw [eA]; show (A && true) = A; cases A <;> rfl
        rw [eA2] at e2
        rw [eA] at e3
        have eS : P_x6_reckonCondition d (bI A) (u1 + 1) i17 i18 i19 i22 i23 i24 (y + 1) (bI B) ptn ptc = (bI W, q, bI (B || (A && R))) := by
          rw [P_x6_reckonCondition_pred (by omega), gC_e, gP_e, e2]
          dsimp only
          rw [show f_x6_reckonPart_j12 (bI A) (u1 + 1) i17 i18 i19 i22 i23 i24 ptn ptc (G_x6_reckonPiece (d - 1)) 161 (bI h) 0 qh rh = (x3, y3, r3) from e3]
          dsimp only
          rw [e4]
          exact e5
        have w : T (sp T k 3 (o + 1) (p + 1)).2 = 41 := by
          by_cases w : T (sp T k 3 (o + 1) (p + 1)).2 = 41
          · exact w
          · rw [if_neg w] at hs; exact absurd (show -1000 - ((sp T k 3 (o + 1) (p + 1)).2 : Int) = 0 from hs) (by omega)
        have wn := T_in hT (p := (sp T k 3 (o + 1) (p + 1)).2) (by omega)
        refine ⟨V, R, W, q + 1, e1, by rw [eS], e6, ?_⟩
        show _ = ((if T (sp T k 3 (o + 1) (p + 1)).2 = 41 then (0, (sp T k 3 (o + 1) (p + 1)).2 + 1) else (-1000 - ((sp T k 3 (o + 1) (p + 1)).2 : Int), (sp T k 3 (o + 1) (p + 1)).2) : Int × Nat).2 : Int)
        rw [if_pos w]
        exact suc_of e7 (by omega)
    · rw [if_neg h40] at hs ⊢
      rw [if_neg h40, if_pos (show (F_x6_sign y ptn ptc).toInt ≠ 40 by omega)]
      have g1 := seq_0 hs
      rw [seq_y g1] at hs ⊢
      obtain ⟨v, r, q, e1, e2, e3⟩ := e_all (A := A) (B := B) (i17 := i17) (i18 := i18) (i19 := i19) (i22 := i22) (i23 := i23) (i24 := i24) hT hx g1 hp (by omega) hod h1 h6 hu hy
      have O : p < (sp T k 1 o p).2 ∧ (sp T k 1 o p).2 ≤ n := by
        rcases sp_ok hT k 1 o p (by omega) hp (by omega) with ⟨_, a, b⟩ | a
        · exact ⟨a, b⟩
        · omega
      generalize (sp T k 1 o p).2 = q0 at hs e3 O ⊢
      have hs : (if T q0 = 60 ∨ T q0 = 62 ∨ T q0 = 61 then sp T k 1 o (q0 + 1) else (-1000 - (q0 : Int), q0) : Int × Nat).1 = 0 := hs
      have hc : T q0 = 60 ∨ T q0 = 62 ∨ T q0 = 61 := by
        by_cases w : T q0 = 60 ∨ T q0 = 62 ∨ T q0 = 61
        · exact w
        · rw [if_neg w] at hs; exact absurd (show -1000 - (q0 : Int) = 0 from hs) (by omega)
      have hqn := T_in hT (p := q0) (by omega)
      rw [if_pos hc] at hs
      have hsq := sg6 hT hx e3
      obtain ⟨v2, r2, q2, f1, f2, f3⟩ := e_all (A := A) (B := B || (A && r)) (i17 := i17) (i18 := i18) (i19 := i19) (i22 := i22) (i23 := i23) (i24 := i24) hT hx hs (by omega) (by omega) hod h1 h6 hu (suc_of e3 (by omega))
      rw [e2]
      dsimp only
      rw [f2]
      dsimp only
      have fl : ∀ c : Int, c ≠ 47 → c ≠ 37 → (r || r2 || ((decide (c = 47) || decide (c = 37)) && decide (v2.toInt = 0))) = (r || r2) := by
        intro c a b
        rw [decide_eq_false a, decide_eq_false b]
        cases r <;> cases r2 <;> rfl
      have rfB : ((B || (A && r)) || (A && r2)) = (B || (A && (r || r2))) := by cases A <;> cases B <;> cases r <;> cases r2 <;> rfl
      have run : ∀ (V : Bool), F_m12_worked (Int32.ofInt (T q0)) v v2 = bI V → ∀ st, exo (evl i17 i18 i19 i22 i23 i24) (cm T k 1 o [] p ++ (cm T k 1 o [] (q0 + 1) ++ [(T q0, 0)])) st = some ((bI V, r || r2) :: st) := by
        intro V hV st
        rw [exo_then (e1 st), exo_then (f1 _), exo_cons (ex_op (by omega)), dox_ar (by omega) (by omega), fl _ (by omega) (by omega)]
        show some ((F_m12_worked (Int32.ofInt (T q0)) v v2, r || r2) :: st) = _
        rw [hV]
      have fin : ((if T q0 = 60 ∨ T q0 = 62 ∨ T q0 = 61 then sp T k 1 o (q0 + 1) else (-1000 - (q0 : Int), q0) : Int × Nat).2 : Int) = ((sp T k 1 o (q0 + 1)).2 : Int) := by rw [if_pos hc]
      show ∃ (V r_1 W : Bool) (q : Int32), _ ∧ _ ∧ _ ∧ q.toInt = ((if T q0 = 60 ∨ T q0 = 62 ∨ T q0 = 61 then sp T k 1 o (q0 + 1) else (-1000 - (q0 : Int), q0) : Int × Nat).2 : Int)
      rw [fin]
      rcases hc with hc | hc | hc
      · rw [if_neg (show ¬ (F_x6_sign q ptn ptc).toInt ≠ 60 by omega)]
        by_cases w : v.toInt ≥ v2.toInt
        · rw [if_pos w]
          exact ⟨false, r || r2, false, q2, run false (by rw [hc, wk_lt, if_pos w]; rfl), by rw [rfB]; rfl, fun _ _ => rfl, f3⟩
        · rw [if_neg w]
          exact ⟨true, r || r2, true, q2, run true (by rw [hc, wk_lt, if_neg w]; rfl), by rw [rfB]; rfl, fun _ _ => rfl, f3⟩
      · rw [if_pos (show (F_x6_sign q ptn ptc).toInt ≠ 60 by omega), if_neg (show ¬ (F_x6_sign q ptn ptc).toInt ≠ 62 by omega)]
        by_cases w : v.toInt ≤ v2.toInt
        · rw [if_pos w]
          exact ⟨false, r || r2, false, q2, run false (by rw [hc, wk_gt, if_pos w]; rfl), by rw [rfB]; rfl, fun _ _ => rfl, f3⟩
        · rw [if_neg w]
          exact ⟨true, r || r2, true, q2, run true (by rw [hc, wk_gt, if_neg w]; rfl), by rw [rfB]; rfl, fun _ _ => rfl, f3⟩
      · rw [if_pos (show (F_x6_sign q ptn ptc).toInt ≠ 60 by omega), if_pos (show (F_x6_sign q ptn ptc).toInt ≠ 62 by omega)]
        by_cases w : v.toInt ≠ v2.toInt
        · rw [if_pos w]
          exact ⟨false, r || r2, false, q2, run false (by rw [hc, wk_eq, if_pos w]; rfl), by rw [rfB]; rfl, fun _ _ => rfl, f3⟩
        · rw [if_neg w]
          exact ⟨true, r || r2, true, q2, run true (by rw [hc, wk_eq, if_neg w]; rfl), by rw [rfB]; rfl, fun _ _ => rfl, f3⟩
theorem e_cond {k : Nat} (hT : TXT T n) (hx : TXE T n ptn ptc) (ih : EP2 T n ptn ptc i17 i18 i19 i22 i23 i24 k) (ihc : EC3 T n ptn ptc i17 i18 i19 i22 i23 i24 k) : EC3 T n ptn ptc i17 i18 i19 i22 i23 i24 (k + 1) := by
  have h160 := hT.1
  intro p o d m1 m2 k1 k2 ap op A B B0 u1 y c1 c2 hap hop hs hp hk hod h1 h6 hu hy hc1 hc2 hk1 hk2 hm1 hm2 hB
  rw [sp_3] at hs ⊢
  have s1 := seq_0 hs
  rw [seq_y s1] at hs ⊢
  obtain ⟨Vh, rh, Wh, qh, f1, f2, f3, f4⟩ := ih p o d ((A && oA op) && jA ap) B u1 y s1 hp (by omega) hod h1 h6 hu hy
  have O : p < (sp T k 2 o p).2 ∧ (sp T k 2 o p).2 ≤ n := by
    rcases sp_ok hT k 2 o p (by omega) hp (by omega) with ⟨_, a, b⟩ | a
    · exact ⟨a, b⟩
    · omega
  rw [cm_3]
  generalize (sp T k 2 o p).2 = q0 at hs f4 O ⊢
  have hsg := sg6 hT hx f4
  have hs : ((if opA (T q0) = true ∨ opO (T q0) = true then sp T k 3 o (q0 + 1) else (0, q0)) : Int × Nat).1 = 0 := hs
  show ∃ (V R W h : Bool) (q qh rh x3 y3 r3 : Int32), _ ∧ _ ∧ _ ∧ _ ∧ _ ∧ q.toInt = (((if opA (T q0) = true ∨ opO (T q0) = true then sp T k 3 o (q0 + 1) else (0, q0)) : Int × Nat).2 : Int)
  -- what stands behind the &
  obtain ⟨a1, a2⟩ := b_and (B0 := B0 || (A && jr op)) (Vh := Vh) (Wh := Wh) (rh := rh) hap f3
  obtain ⟨Vx, hVx⟩ : ∃ w, (jV ap (Vh, rh)).1 = w := ⟨_, rfl⟩
  obtain ⟨rx, hrx⟩ : ∃ w, (jV ap (Vh, rh)).2 = w := ⟨_, rfl⟩
  obtain ⟨Wx, hWx⟩ : ∃ w, jW ap Wh = w := ⟨_, rfl⟩
  rw [hrx] at a1
  rw [hrx, hVx, hWx] at a2
  have eB : (B || (((A && oA op) && jA ap) && rh)) = ((B0 || (A && jr op)) || ((A && oA op) && rx)) := by rw [hB]; exact a1
  rw [eB] at f2
  have ex0 : ∀ st, exo (evl i17 i18 i19 i22 i23 i24) (cm T k 2 o [] p) (jS ap (jS op st)) = some ((bI Vh, rh) :: jS ap (jS op st)) := fun st => f1 _
  have ex1' : ∀ st, exo (evl i17 i18 i19 i22 i23 i24) (em (jL 38 ap)) ((bI Vh, rh) :: jS ap (jS op st)) = some ((bI Vx, rx) :: jS op st) := fun st => by
    have := exo_j (ev := evl i17 i18 i19 i22 i23 i24) (z := ap) (x := (Vh, rh)) (S := jS op st)
    rw [hVx, hrx] at this; exact this
  obtain ⟨m1, rfl⟩ : ∃ w, m1 = w + 1 := ⟨m1 - 1, by omega⟩
  obtain ⟨m2, rfl⟩ : ∃ w, m2 = w + 1 := ⟨m2 - 1, by omega⟩
  by_cases wA : opA (T q0) = true
  · have w3 := opA_i wA
    have wO : opO (T q0) = false := by
      cases e : opO (T q0) with
      | false => rfl
      | true => have := opO_i e; omega
    rw [if_pos (Or.inl wA)] at hs ⊢
    rw [if_pos (Or.inl wA), wO, jR_o.1, jR_o.2, w3]
    have hqn := T_in hT (p := q0) (by omega)
    have hc1' := toInt_add hc1 co1 (by have := co1; omega) (by have := co1; omega)
    obtain ⟨V, R, W, h, q, qh2, rh2, x3, y3, r3, e1, e2, e3, e4, e5, e6⟩ := ihc (q0 + 1) o d m1 (m2 + 1) (k1 + 1) k2 (some (Vx, rx, Wx)) op A ((B0 || (A && jr op)) || ((A && oA op) && rx)) B0 u1 (qh + 1) (c1 + Int32.ofInt 1) c2 a2 hop hs (by omega) (by omega) hod h1 h6 hu (suc_of f4 (by omega)) (by have := co1; omega) hc2 (by omega) (by omega) (by omega) (by omega) rfl
    refine ⟨V, R, W, Wh, q, qh, _, x3, y3, r3, fun st => ?_, f2, ?_, e4, e5, e6⟩
    · rw [exo_then (ex0 st), exo_then (ex1' st)]
      exact e1 st
    · rw [hWx, pj_y (x := Wx) (h := h) (by omega) (by omega) e2]
      exact e3
  · have ePL : f_x6_reckonPart_j12 (bI (A && oA op)) u1 i17 i18 i19 i22 i23 i24 ptn ptc (G_x6_reckonPiece d) (m1 + 1) (bI (jW ap Wh)) c1 qh (bI ((B0 || (A && jr op)) || ((A && oA op) && rx))) = (bI Wx, qh, bI ((B0 || (A && jr op)) || ((A && oA op) && rx))) := by
      have := opA_o wA
      rw [hWx]
      exact pj_n (by omega)
    -- what stands behind the |
    obtain ⟨b1, b2⟩ := b_or (B0 := B0) (Vx := Vx) (Wx := Wx) (rx := rx) hop a2
    obtain ⟨Vy, hVy⟩ : ∃ w, (oVb op (Vx, rx)).1 = w := ⟨_, rfl⟩
    obtain ⟨ry, hry⟩ : ∃ w, (oVb op (Vx, rx)).2 = w := ⟨_, rfl⟩
    obtain ⟨Wy, hWy⟩ : ∃ w, oW op Wx = w := ⟨_, rfl⟩
    rw [hry] at b1
    rw [hry, hVy, hWy] at b2
    have ex2' : ∀ st, exo (evl i17 i18 i19 i22 i23 i24) (em (jL 124 op)) ((bI Vx, rx) :: jS op st) = some ((bI Vy, ry) :: st) := fun st => by
      have := exo_r (ev := evl i17 i18 i19 i22 i23 i24) (z := op) (x := (Vx, rx)) (S := st)
      rw [hVy, hry] at this; exact this
    by_cases wO : opO (T q0) = true
    · have w3 := opO_i wO
      rw [if_pos (Or.inr wO)] at hs ⊢
      rw [if_pos (Or.inr wO), wO, jR_t, jE_t, em_app, w3]
      have hqn := T_in hT (p := q0) (by omega)
      have hc2' := toInt_add hc2 co1 (by have := co1; omega) (by have := co1; omega)
      obtain ⟨V, R, W, h, q, qh2, rh2, x3, y3, r3, e1, e2, e3, ⟨x4, e4, e4'⟩, e5, e6⟩ := ihc (q0 + 1) o d 161 m2 0 (k2 + 1) none (some (Vy, ry, Wy)) A (B0 || (A && ry)) B0 u1 (qh + 1) 0 (c2 + Int32.ofInt 1) trivial b2 hs (by omega) (by omega) hod h1 h6 hu (suc_of f4 (by omega)) c0 (by have := co1; omega) (by omega) (by omega) (by omega) (by omega) (by
        show _ = ((B0 || (A && ry)) || ((A && !Wy) && false))
        cases A <;> cases B0 <;> cases ry <;> cases Wy <;> rfl)
      refine ⟨V, R, W, Wh, q, qh, _, _, _, _, fun st => ?_, f2, ePL, ⟨Wx, rfl, ?_⟩, e5, e6⟩
      · rw [exo_then (ex0 st), List.append_assoc, exo_then (ex1' st), exo_then (ex2' st)]
        exact e1 st
      · unfold CLp at e4' ⊢
        have e2' : G_x6_reckonPiece d (bI (A && !Wy)) u1 i17 i18 i19 i22 i23 i24 (qh + 1) (bI (B0 || (A && ry))) ptn ptc = (bI h, qh2, rh2) := by
          have : ((A && oA (some (Vy, ry, Wy))) && jA none) = (A && !Wy) := by show ((A && !Wy) && true) = _; cases A <;> cases Wy <;> rfl
          rw [this] at e2; exact e2
        have eg : G_x6_reckonPart d (bI (A && !Wy)) u1 i17 i18 i19 i22 i23 i24 (qh + 1) (bI (B0 || (A && ry))) ptn ptc = (bI x4, y3, r3) := by
          rw [gP_e, e2']
          dsimp only
          rw [← e4]
          exact e3
        rw [hWy, b1, cj_y (h := x4) (by omega) (by omega) eg]
        exact e4'
    · have wn : ¬ (opA (T q0) = true ∨ opO (T q0) = true) := fun z => z.elim wA wO
      rw [if_neg wn, if_neg wn, em_app]
      refine ⟨Vy, ry, Wy, Wh, qh, qh, _, _, _, _, fun st => ?_, f2, ePL, ⟨Wx, rfl, ?_⟩, b2, f4⟩
      · rw [exo_then (ex0 st), exo_then (ex1' st)]
        exact ex2' st
      · unfold CLp
        have := opO_o wO
        rw [hWy, b1]
        exact cj_n (by omega)
theorem e_conds (hT : TXT T n) (hx : TXE T n ptn ptc) : ∀ k, EP2 T n ptn ptc i17 i18 i19 i22 i23 i24 k ∧ EC3 T n ptn ptc i17 i18 i19 i22 i23 i24 k := by
  intro k
  induction k with
  | zero => exact ⟨fun _ _ _ _ _ _ _ _ _ h => by omega, fun _ _ _ _ _ _ _ _ _ _ _ _ _ _ _ _ _ _ _ _ h => by omega⟩
  | succ k ih => exact ⟨e_piece hT hx ih.1 ih.2, e_cond hT hx ih.1 ih.2⟩
/-- a whole condition, asked -/
theorem e_condition {p : Nat} {y : Int32} (hT : TXT T n) (hx : TXE T n ptn ptc) (hs : (sp T 1000 3 1 p).1 = 0) (hp : p ≤ n) (hy : y.toInt = (p : Int)) :
    ∃ (V R W : Bool) (q : Int32), (∀ st, exo (evl i17 i18 i19 i22 i23 i24) (cm T 1000 3 1 [] p) st = some ((bI V, R) :: st)) ∧ G_x6_reckonCondition 6 1 1 i17 i18 i19 i22 i23 i24 y 0 ptn ptc = (bI W, q, bI R) ∧ (R = false → W = V) := by
  have h160 := hT.1
  obtain ⟨V, R, W, h, q, qh, rh, x3, y3, r3, e1, e2, e3, ⟨x4, e4, e5⟩, e6, e7⟩ := (e_conds (i17 := i17) (i18 := i18) (i19 := i19) (i22 := i22) (i23 := i23) (i24 := i24) hT hx 1000).2 p 1 6 161 161 0 0 none none true false false 1 y 0 0 trivial trivial hs hp (by omega) (by omega) (by omega) (by omega) (by decide) hy c0 c0 (by omega) (by omega) (by omega) (by omega) rfl
  refine ⟨V, R, W, q, e1, ?_, fun z => e6 rfl z⟩
  have e2' : G_x6_reckonPiece 6 1 1 i17 i18 i19 i22 i23 i24 y 0 ptn ptc = (bI h, qh, rh) := e2
  have e3' : f_x6_reckonPart_j12 1 1 i17 i18 i19 i22 i23 i24 ptn ptc (G_x6_reckonPiece 6) 161 (bI h) 0 qh rh = (x3, y3, r3) := e3
  rw [gC_e, gP_e, e2']
  dsimp only
  rw [e3']
  dsimp only
  rw [e4]
  have : (false || (true && R)) = R := by cases R <;> rfl
  rw [this] at e5
  exact e5
end EVC
