/-! items one behind the other, and the one that is asked for -/
def fnd {α : Type} (i : Int) : Int → List α → α → α
  | _, [], o => o
  | n, x :: L, o => fnd i (n + 1) L (if n = i then x else o)
def skp {α : Type} (i : Int) : Int → List α → Option α
  | _, [] => none
  | n, x :: L => if n = i then some x else skp i (n + 1) L
theorem fnd_app {α : Type} {i : Int} : ∀ (A : List α) (n : Int) (B : List α) (o : α), fnd i n (A ++ B) o = fnd i (n + A.length) B (fnd i n A o) := by
  intro A
  induction A with
  | nil =>
    intro n B o
    have e : n + (([] : List α).length : Int) = n := by show n + ((0 : Nat) : Int) = n; omega
    rw [e]; rfl
  | cons x A ih =>
    intro n B o
    have e : n + ((x :: A).length : Int) = n + 1 + (A.length : Int) := by show n + ((A.length + 1 : Nat) : Int) = _; omega
    rw [e]
    exact ih (n + 1) B _
theorem fnd_past {α : Type} {i : Int} : ∀ (L : List α) (n : Int) (o : α), i < n → fnd i n L o = o := by
  intro L
  induction L with
  | nil => intro n o _; rfl
  | cons x L ih =>
    intro n o h
    show fnd i (n + 1) L (if n = i then x else o) = o
    rw [if_neg (by omega)]
    exact ih (n + 1) o (by omega)
theorem fnd_skp {α : Type} {i : Int} : ∀ (L : List α) (n : Int) (o x : α), skp i n L = some x → fnd i n L o = x := by
  intro L
  induction L with
  | nil => intro n o x h; cases h
  | cons y L ih =>
    intro n o x h
    have h : (if n = i then some y else skp i (n + 1) L) = some x := h
    show fnd i (n + 1) L (if n = i then y else o) = x
    by_cases w : n = i
    · rw [if_pos w] at h ⊢
      cases h
      exact fnd_past L (n + 1) y (by omega)
    · rw [if_neg w] at h ⊢
      exact ih (n + 1) o x h
theorem skp_none {α : Type} {i : Int} : ∀ (L : List α) (n : Int), n ≤ i → skp i n L = none → n + L.length ≤ i := by
  intro L
  induction L with
  | nil => intro n h _; show n + ((0 : Nat) : Int) ≤ i; omega
  | cons y L ih =>
    intro n h hk
    have hk : (if n = i then some y else skp i (n + 1) L) = none := hk
    by_cases w : n = i
    · rw [if_pos w] at hk; cases hk
    · rw [if_neg w] at hk
      have := ih (n + 1) (by omega) hk
      show n + ((L.length + 1 : Nat) : Int) ≤ i
      omega
theorem skp_some {α : Type} {i : Int} : ∀ (L : List α) (n : Int) (x : α), skp i n L = some x → n ≤ i ∧ i < n + L.length := by
  intro L
  induction L with
  | nil => intro n x h; cases h
  | cons y L ih =>
    intro n x hk
    have hk : (if n = i then some y else skp i (n + 1) L) = some x := hk
    have e : ((y :: L).length : Int) = (L.length : Int) + 1 := by show ((L.length + 1 : Nat) : Int) = _; omega
    by_cases w : n = i
    · omega
    · rw [if_neg w] at hk
      have := ih (n + 1) x hk
      omega
theorem skp_app1 {α : Type} {i : Int} : ∀ (A : List α) (n : Int) (B : List α) (x : α), skp i n A = some x → skp i n (A ++ B) = some x := by
  intro A
  induction A with
  | nil => intro n B x h; cases h
  | cons y A ih =>
    intro n B x h
    have h : (if n = i then some y else skp i (n + 1) A) = some x := h
    show (if n = i then some y else skp i (n + 1) (A ++ B)) = some x
    by_cases w : n = i
    · rw [if_pos w] at h ⊢; exact h
    · rw [if_neg w] at h ⊢; exact ih (n + 1) B x h
theorem skp_app2 {α : Type} {i : Int} : ∀ (A : List α) (n : Int) (B : List α), skp i n A = none → skp i n (A ++ B) = skp i (n + A.length) B := by
  intro A
  induction A with
  | nil =>
    intro n B _
    have e : n + (([] : List α).length : Int) = n := by show n + ((0 : Nat) : Int) = n; omega
    rw [e]; rfl
  | cons y A ih =>
    intro n B h
    have e : n + ((y :: A).length : Int) = n + 1 + (A.length : Int) := by show n + ((A.length + 1 : Nat) : Int) = _; omega
    have h : (if n = i then some y else skp i (n + 1) A) = none := h
    rw [e]
    show (if n = i then some y else skp i (n + 1) (A ++ B)) = _
    by_cases w : n = i
    · rw [if_pos w] at h; cases h
    · rw [if_neg w] at h ⊢; exact ih (n + 1) B h
/-- the numbers from c on, m of them, that are so -/
def WF (hw : Nat → Bool) : Nat → Nat → List Nat
  | 0, _ => []
  | m + 1, c => if hw c = true then c :: WF hw m (c + 1) else WF hw m (c + 1)
theorem WF_y {hw : Nat → Bool} {m c : Nat} (h : hw c = true) : WF hw (m + 1) c = c :: WF hw m (c + 1) := by show (if _ then _ else _) = _; rw [if_pos h]
theorem WF_n {hw : Nat → Bool} {m c : Nat} (h : ¬ hw c = true) : WF hw (m + 1) c = WF hw m (c + 1) := by show (if _ then _ else _) = _; rw [if_neg h]
theorem WF_app {hw : Nat → Bool} : ∀ (a b c : Nat), WF hw (a + b) c = WF hw a c ++ WF hw b (c + a) := by
  intro a
  induction a with
  | zero => intro b c; rw [Nat.zero_add]; rfl
  | succ a ih =>
    intro b c
    have e : a + 1 + b = (a + b) + 1 := by omega
    have e2 : c + (a + 1) = c + 1 + a := by omega
    rw [e, e2]
    by_cases w : hw c = true
    · rw [WF_y w, WF_y w, ih]; rfl
    · rw [WF_n w, WF_n w, ih]
theorem WF_filter {hw sp : Nat → Bool} : ∀ (m c : Nat), WF (fun k => hw k && sp k) m c = (WF hw m c).filter sp := by
  intro m
  induction m with
  | zero => intro c; rfl
  | succ m ih =>
    intro c
    by_cases w : hw c = true
    · rw [WF_y w]
      by_cases w2 : sp c = true
      · have w3 : (hw c && sp c) = true := by rw [w, w2]; rfl
        rw [WF_y (hw := fun k => hw k && sp k) w3, ih, List.filter_cons_of_pos w2]
      · have w3 : ¬ (hw c && sp c) = true := by rw [w]; exact w2
        rw [WF_n (hw := fun k => hw k && sp k) w3, ih, List.filter_cons_of_neg w2]
    · have w3 : ¬ (hw c && sp c) = true := by
        intro z
        cases h : hw c with
        | true => exact w h
        | false => rw [h] at z; cases z
      rw [WF_n w, WF_n (hw := fun k => hw k && sp k) w3, ih]
theorem WF_none {hw : Nat → Bool} : ∀ (m c : Nat), (∀ k, c ≤ k → k < c + m → hw k = false) → WF hw m c = [] := by
  intro m
  induction m with
  | zero => intro c _; rfl
  | succ m ih =>
    intro c h
    rw [WF_n (by rw [h c (Nat.le_refl _) (by omega)]; exact Bool.false_ne_true)]
    exact ih (c + 1) (fun k h1 h2 => h k (by omega) (by omega))
theorem WF_len {hw : Nat → Bool} : ∀ (m c : Nat), (WF hw m c).length ≤ m := by
  intro m
  induction m with
  | zero => intro c; exact Nat.le_refl _
  | succ m ih =>
    intro c
    have := ih (c + 1)
    by_cases w : hw c = true
    · rw [WF_y w]; show (WF hw m (c + 1)).length + 1 ≤ m + 1; omega
    · rw [WF_n w]; omega
theorem WF_mem {hw : Nat → Bool} : ∀ (m c k : Nat), k ∈ WF hw m c → c ≤ k ∧ k < c + m ∧ hw k = true := by
  intro m
  induction m with
  | zero => intro c k h; cases h
  | succ m ih =>
    intro c k h
    by_cases w : hw c = true
    · rw [WF_y w] at h
      rcases List.mem_cons.mp h with e | e
      · subst e; exact ⟨Nat.le_refl _, by omega, w⟩
      · have := ih (c + 1) k e; exact ⟨by omega, by omega, this.2.2⟩
    · rw [WF_n w] at h
      have := ih (c + 1) k h; exact ⟨by omega, by omega, this.2.2⟩
theorem WF_congr {f g : Nat → Bool} : ∀ (m c : Nat), (∀ k, c ≤ k → k < c + m → f k = g k) → WF f m c = WF g m c := by
  intro m
  induction m with
  | zero => intro c _; rfl
  | succ m ih =>
    intro c h
    have e := ih (c + 1) (fun k h1 h2 => h k (by omega) (by omega))
    have e0 := h c (Nat.le_refl _) (by omega)
    by_cases w : f c = true
    · rw [WF_y w, WF_y (e0 ▸ w), e]
    · rw [WF_n w, WF_n (e0 ▸ w), e]
/-- QUARRELS as a list: a TOKEN, the first CLAUSE, the second one -/
abbrev I3 := Int32 × Int32 × Int32
def secL (mt : Nat → Int32 → Bool) (vl : Nat → Int32) (tk t : Int32) (p : Nat) : List Nat → List I3
  | [] => []
  | q :: R => if mt q tk = true ∧ ¬ (vl q).toInt = (vl p).toInt then (Int32.ofNat p, t, Int32.ofNat q) :: secL mt vl tk t p R else secL mt vl tk t p R
def frsL (mt : Nat → Int32 → Bool) (vl : Nat → Int32) (tk t : Int32) : List Nat → List I3
  | [] => []
  | p :: R => if mt p tk = true then secL mt vl tk t p R ++ frsL mt vl tk t R else frsL mt vl tk t R
def qrl (mt : Nat → Int32 → Bool) (vl : Nat → Int32) (tok : Nat → Int32) (W : List Nat) : Nat → Nat → List I3
  | 0, _ => []
  | m + 1, t => frsL mt vl (tok t) (Int32.ofNat t) W ++ qrl mt vl tok W m (t + 1)
section QRL
variable {mt : Nat → Int32 → Bool} {vl : Nat → Int32} {tk t : Int32} {p q : Nat} {R : List Nat}
theorem secL_y (h : mt q tk = true ∧ ¬ (vl q).toInt = (vl p).toInt) : secL mt vl tk t p (q :: R) = (Int32.ofNat p, t, Int32.ofNat q) :: secL mt vl tk t p R := by show (if _ then _ else _) = _; rw [if_pos h]
theorem secL_n (h : ¬ (mt q tk = true ∧ ¬ (vl q).toInt = (vl p).toInt)) : secL mt vl tk t p (q :: R) = secL mt vl tk t p R := by show (if _ then _ else _) = _; rw [if_neg h]
theorem frsL_y (h : mt p tk = true) : frsL mt vl tk t (p :: R) = secL mt vl tk t p R ++ frsL mt vl tk t R := by show (if _ then _ else _) = _; rw [if_pos h]
theorem frsL_n (h : ¬ mt p tk = true) : frsL mt vl tk t (p :: R) = frsL mt vl tk t R := by show (if _ then _ else _) = _; rw [if_neg h]
theorem secL_f {sp : Nat → Bool} (hsp : ∀ c, mt c tk = true → sp c = true) : ∀ (R : List Nat), secL mt vl tk t p (R.filter sp) = secL mt vl tk t p R := by
  intro R
  induction R with
  | nil => rfl
  | cons q R ih =>
    by_cases w : sp q = true
    · rw [List.filter_cons_of_pos w]
      by_cases w2 : mt q tk = true ∧ ¬ (vl q).toInt = (vl p).toInt
      · rw [secL_y w2, secL_y w2, ih]
      · rw [secL_n w2, secL_n w2, ih]
    · rw [List.filter_cons_of_neg w, secL_n (fun z => w (hsp q z.1)), ih]
theorem frsL_f {sp : Nat → Bool} (hsp : ∀ c, mt c tk = true → sp c = true) : ∀ (R : List Nat), frsL mt vl tk t (R.filter sp) = frsL mt vl tk t R := by
  intro R
  induction R with
  | nil => rfl
  | cons q R ih =>
    by_cases w : sp q = true
    · rw [List.filter_cons_of_pos w]
      by_cases w2 : mt q tk = true
      · rw [frsL_y w2, frsL_y w2, secL_f hsp, ih]
      · rw [frsL_n w2, frsL_n w2, ih]
    · rw [List.filter_cons_of_neg w, frsL_n (fun z => w (hsp q z)), ih]
end QRL
theorem qrl_f {mt : Nat → Int32 → Bool} {vl : Nat → Int32} {tok : Nat → Int32} {sp : Nat → Bool} {W : List Nat} : ∀ (m t : Nat), (∀ c k, t ≤ k → k < t + m → mt c (tok k) = true → sp c = true) → qrl mt vl tok (W.filter sp) m t = qrl mt vl tok W m t := by
  intro m
  induction m with
  | zero => intro t _; rfl
  | succ m ih =>
    intro t h
    show frsL mt vl (tok t) (Int32.ofNat t) (W.filter sp) ++ qrl mt vl tok (W.filter sp) m (t + 1) = _
    rw [frsL_f (fun c z => h c t (Nat.le_refl _) (by omega) z), ih (t + 1) (fun c k h1 h2 z => h c k (by omega) (by omega) z)]
    rfl
