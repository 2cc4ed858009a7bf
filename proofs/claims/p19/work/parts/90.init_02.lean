theorem fill_step {f : Nat → Int32} {a : Int} {i v : Int32} (hf : ∀ j : Nat, (j : Int) < a → f j = v) (hi : i.toInt = a) (h0 : 0 ≤ a) : ∀ j : Nat, (j : Int) < a + 1 → upd f i.toNatClampNeg v j = v := by
  intro j hj
  unfold upd
  split
  · rfl
  · rename_i hne
    apply hf
    have : i.toNatClampNeg = i.toInt.toNat := rfl
    omega
theorem hd_10 : ∀ j, j < 3 → defaultValue (tyX10 j) = vp_V [.null, .null, .int 0] j := by decide +kernel
theorem hd_9 : ∀ j, j < 6 → defaultValue (tyX9 j) = vp_V [.null, .null, .null, .null, .null, .int 0] j := by decide +kernel
theorem hd_4 : ∀ j, j < 8 → defaultValue (tyX4 j) = vp_V [.null, .null, .null, .int 0, .int 0, .int 0, .int 0, .int 0] j := by decide +kernel
theorem hd_2 : ∀ j, j < 11 → defaultValue (tyX2 j) = vp_V [.null, .null, .null, .null, .null, .null, .null, .null, .null, .null, .int 0] j := by decide +kernel
theorem hd_8 : ∀ j, j < 7 → defaultValue (tyX8 j) = vp_V [.null, .null, .null, .null, .null, .int 0, .int 0] j := by decide +kernel
theorem hd_3 : ∀ j, j < 7 → defaultValue (tyX3 j) = vp_V [.null, .null, .int 0, .int 0, .int 0, .int 0, .int 0] j := by decide +kernel
theorem hd_6 : ∀ j, j < 14 → defaultValue (tyX6 j) = vp_V [.null, .null, .null, .int 0, .int 0, .int 0, .int 0, .int 0, .int 0, .int 0, .int 0, .null, .int 0, .int 0] j := by decide +kernel
theorem hd_1 : ∀ j, j < 13 → defaultValue (tyX1 j) = vp_V [.null, .null, .null, .null, .null, .null, .null, .null, .null, .null, .int 0, .int 0, .int 0] j := by decide +kernel
theorem hd_0 : ∀ j, j < 14 → defaultValue (tyX0 j) = vp_V [.null, .null, .null, .null, .null, .null, .null, .null, .null, .null, .null, .int 0, .int 0, .int 0] j := by decide +kernel
theorem hd_5 : ∀ j, j < 10 → defaultValue (tyX5 j) = vp_V [.null, .null, .null, .null, .null, .null, .null, .null, .int 0, .int 0] j := by decide +kernel
theorem hd_11 : ∀ j, j < 14 → defaultValue (tyX11 j) = vp_V [.null, .null, .null, .null, .null, .null, .null, .null, .null, .null, .null, .null, .int 0, .int 0] j := by decide +kernel
theorem hd_12 : ∀ j, j < 96 → defaultValue (tyX12 j) = vp_V [.null, .int 0, .int 0, .int 0, .int 0, .int 0, .int 0, .int 0, .int 0, .int 0, .null, .null, .null, .null, .null, .null, .null, .null, .null, .null, .null, .null, .null, .null, .null, .null, .null, .null, .null, .null, .null, .null, .null, .null, .null, .int 0, .int 0, .int 0, .int 0, .int 0, .int 0, .int 0, .int 0, .int 0, .null, .null, .null, .null, .null, .null, .null, .null, .null, .null, .null, .null, .null, .null, .null, .null, .null, .null, .null, .null, .null, .null, .null, .null, .int 0, .null, .null, .null, .int 0, .int 0, .int 0, .int 0, .int 0, .int 0, .int 0, .null, .int 0, .null, .null, .null, .null, .null, .null, .null, .null, .int 0, .null, .int 0, .int 0, .null, .null, .null] j := by decide +kernel
def WI10 (ct : Nat → ClassId) (tN : Nat) (ws : va_W) (h : Nat)  (u : Nat → Nat) : va_W := ws ++ ([(h, .inr (10, [.ref (u 0), .ref (u 1), .int 0])), ((u 0), .inl (ct 1, 4800, .inl (fun _ => 0))), ((u 1), .inl (ct 1, 400, .inl (fun _ => 0)))] : va_W)
set_option maxHeartbeats 8000000 in
set_option maxRecDepth 100000 in
theorem init_X10 (l : Launch) (D : va_G) (ct : Nat → ClassId) (tN : Nat) (ws : va_W) (h : Nat)  : MV l D (TY ct) tN yX10_init cX10_init 1 ({ frames := 1, cells := 2, slots := 5200, locals := 40 } : Room) [.ref h] (ws ++ ([(h, .inr (10, [.null, .null, .int 0]))] : va_W)) (fun (u : Nat → Nat) => True) (WI10 ct tN ws h ) 2 5200 := by
  intro sz
  refine Met.ofE (Qc := fun A => va_Qv (fun (u : Nat → Nat) => True) (BW D A (WI10 ct tN ws h )) A) (by decide) (Nat.le_of_ble_eq_true rfl) ?_
  intro p e s m args below meth c A ls hsz E hr hlk hnm B hl
  have hnm : "<init>" = meth.name := hnm
  replace hl : lv_has ls 1 [(0, .ref h)] := hl
  refine lv_aload_n E.1.1 E.1.2.1 dX10_init_0 rfl (lv_at hl 0 rfl) ?_
  refine row_obj E w_dd4f08ab w_08b13607 w_47dee913 hl dX10_init_1 (Nat.le_of_ble_eq_true rfl) (Nat.le_of_ble_eq_true rfl) ?_
  refine lv_aload_n E.1.1 E.1.2.1 dX10_init_4 rfl (lv_at hl 0 rfl) ?_
  refine lv_sipush (v := 4800) E.1.1 E.1.2.1 dX10_init_5 (by decide) ?_
  refine row_newa (atype := .byte) (a0 := (4800, .inl (fun _ => 0))) E B w_db47154c rfl 1 rfl (fun _ => rfl) (by decide) (by decide) (Nat.le_of_ble_eq_true rfl) (Nat.le_of_ble_eq_true rfl) (Nat.le_of_ble_eq_true rfl) dX10_init_8 ?_
  clear B
  intro q1 H B
  refine at_n (n := 10) (k1 := 1) (k2 := 4800) rfl rfl rfl ?_
  refine row_putF E B iX10 rfl tyX10 tyX10_ok nmX10 0 (by decide) w_8fb5bbb8 rfl hnm rfl (ws.length + 0) ((at_pp _ _ _ _).trans rfl) rfl rfl (Nat.le_of_ble_eq_true rfl) dX10_init_10 ?_
  clear B
  intro H locs B
  replace B := Hp.to B (set_pp ..)
  replace B := Hp.to (ws' := ws ++ ([(h, .inr (10, [.ref q1, .null, .int 0])), (q1, .inl (ct 1, 4800, .inl (fun _ => 0)))] : va_W)) B rfl
  refine at_pc (n := 13) rfl ?_
  refine lv_aload_n E.1.1 E.1.2.1 dX10_init_13 rfl (lv_at hl 0 rfl) ?_
  refine lv_sipush (v := 400) E.1.1 E.1.2.1 dX10_init_14 (by decide) ?_
  refine row_newa (atype := .byte) (a0 := (400, .inl (fun _ => 0))) E B w_db47154c rfl 1 rfl (fun _ => rfl) (by decide) (by decide) (Nat.le_of_ble_eq_true rfl) (Nat.le_of_ble_eq_true rfl) (Nat.le_of_ble_eq_true rfl) dX10_init_17 ?_
  clear B
  intro q2 H B
  refine at_n (n := 19) (k1 := 2) (k2 := 5200) rfl rfl rfl ?_
  refine row_putF E B iX10 rfl tyX10 tyX10_ok nmX10 1 (by decide) w_d22f28c3 rfl hnm rfl (ws.length + 0) ((at_pp _ _ _ _).trans rfl) rfl rfl (Nat.le_of_ble_eq_true rfl) dX10_init_19 ?_
  clear B
  intro H locs B
  replace B := Hp.to B (set_pp ..)
  replace B := Hp.to (ws' := ws ++ ([(h, .inr (10, [.ref q1, .ref q2, .int 0])), (q1, .inl (ct 1, 4800, .inl (fun _ => 0))), (q2, .inl (ct 1, 400, .inl (fun _ => 0)))] : va_W)) B rfl
  refine at_pc (n := 22) rfl ?_
  exact ret_V (u := (fun k => ([q1, q2] : List Nat).getD k 0)) E hr hlk B trivial dX10_init_22
def WI9 (ct : Nat → ClassId) (tN : Nat) (ws : va_W) (h : Nat)  (u : Nat → Nat) : va_W := ws ++ ([(h, .inr (9, [.ref (u 0), .ref (u 1), .ref (u 2), .ref (u 3), .ref (u 4), .int 0])), ((u 0), .inl (ct 0, 60, .inl (fun _ => 0))), ((u 1), .inl (ct 0, 60, .inl (fun _ => 0))), ((u 2), .inl (ct 4, 180, .inr (.inr (.inr (.inr (fun _ => none)))))), ((u 3), .inl (ct 0, 480, .inl (fun _ => 0))), ((u 4), .inl (ct 0, 480, .inl (fun _ => 0)))] : va_W)
set_option maxHeartbeats 8000000 in
set_option maxRecDepth 100000 in
theorem init_X9 (l : Launch) (D : va_G) (ct : Nat → ClassId) (tN : Nat) (ws : va_W) (h : Nat)  : MV l D (TY ct) tN yX9_init cX9_init 1 ({ frames := 1, cells := 5, slots := 1260, locals := 40 } : Room) [.ref h] (ws ++ ([(h, .inr (9, [.null, .null, .null, .null, .null, .int 0]))] : va_W)) (fun (u : Nat → Nat) => True) (WI9 ct tN ws h ) 5 1260 := by
  intro sz
  refine Met.ofE (Qc := fun A => va_Qv (fun (u : Nat → Nat) => True) (BW D A (WI9 ct tN ws h )) A) (by decide) (Nat.le_of_ble_eq_true rfl) ?_
  intro p e s m args below meth c A ls hsz E hr hlk hnm B hl
  have hnm : "<init>" = meth.name := hnm
  replace hl : lv_has ls 1 [(0, .ref h)] := hl
  refine lv_aload_n E.1.1 E.1.2.1 dX9_init_0 rfl (lv_at hl 0 rfl) ?_
  refine row_obj E w_5aaa2900 w_08b13607 w_47dee913 hl dX9_init_1 (Nat.le_of_ble_eq_true rfl) (Nat.le_of_ble_eq_true rfl) ?_
  refine lv_aload_n E.1.1 E.1.2.1 dX9_init_4 rfl (lv_at hl 0 rfl) ?_
  refine lv_bipush (v := 60) E.1.1 E.1.2.1 dX9_init_5 (by decide) ?_
  refine row_newa (atype := .int) (a0 := (60, .inl (fun _ => 0))) E B w_e8e14353 rfl 0 rfl (fun _ => rfl) (by decide) (by decide) (Nat.le_of_ble_eq_true rfl) (Nat.le_of_ble_eq_true rfl) (Nat.le_of_ble_eq_true rfl) dX9_init_7 ?_
  clear B
  intro q1 H B
  refine at_n (n := 9) (k1 := 1) (k2 := 60) rfl rfl rfl ?_
  refine row_putF E B iX9 rfl tyX9 tyX9_ok nmX9 0 (by decide) w_95620601 rfl hnm rfl (ws.length + 0) ((at_pp _ _ _ _).trans rfl) rfl rfl (Nat.le_of_ble_eq_true rfl) dX9_init_9 ?_
  clear B
  intro H locs B
  replace B := Hp.to B (set_pp ..)
  replace B := Hp.to (ws' := ws ++ ([(h, .inr (9, [.ref q1, .null, .null, .null, .null, .int 0])), (q1, .inl (ct 0, 60, .inl (fun _ => 0)))] : va_W)) B rfl
  refine at_pc (n := 12) rfl ?_
  refine lv_aload_n E.1.1 E.1.2.1 dX9_init_12 rfl (lv_at hl 0 rfl) ?_
  refine lv_bipush (v := 60) E.1.1 E.1.2.1 dX9_init_13 (by decide) ?_
  refine row_newa (atype := .int) (a0 := (60, .inl (fun _ => 0))) E B w_e8e14353 rfl 0 rfl (fun _ => rfl) (by decide) (by decide) (Nat.le_of_ble_eq_true rfl) (Nat.le_of_ble_eq_true rfl) (Nat.le_of_ble_eq_true rfl) dX9_init_15 ?_
  clear B
  intro q2 H B
  refine at_n (n := 17) (k1 := 2) (k2 := 120) rfl rfl rfl ?_
  refine row_putF E B iX9 rfl tyX9 tyX9_ok nmX9 1 (by decide) w_3957b6e1 rfl hnm rfl (ws.length + 0) ((at_pp _ _ _ _).trans rfl) rfl rfl (Nat.le_of_ble_eq_true rfl) dX9_init_17 ?_
  clear B
  intro H locs B
  replace B := Hp.to B (set_pp ..)
  replace B := Hp.to (ws' := ws ++ ([(h, .inr (9, [.ref q1, .ref q2, .null, .null, .null, .int 0])), (q1, .inl (ct 0, 60, .inl (fun _ => 0))), (q2, .inl (ct 0, 60, .inl (fun _ => 0)))] : va_W)) B rfl
  refine at_pc (n := 20) rfl ?_
  refine lv_aload_n E.1.1 E.1.2.1 dX9_init_20 rfl (lv_at hl 0 rfl) ?_
  refine lv_sipush (v := 180) E.1.1 E.1.2.1 dX9_init_21 (by decide) ?_
  refine row_newqa (N' := 180) E B w_18a5ed12 (by decide) (by decide) (Nat.le_of_ble_eq_true rfl) (Nat.le_of_ble_eq_true rfl) (Nat.le_of_ble_eq_true rfl) dX9_init_24 ?_
  clear B
  intro q3 H B
  refine at_n (n := 27) (k1 := 3) (k2 := 300) rfl rfl rfl ?_
  refine row_putF E B iX9 rfl tyX9 tyX9_ok nmX9 2 (by decide) w_cddf6902 rfl hnm rfl (ws.length + 0) ((at_pp _ _ _ _).trans rfl) rfl rfl (Nat.le_of_ble_eq_true rfl) dX9_init_27 ?_
  clear B
  intro H locs B
  replace B := Hp.to B (set_pp ..)
  replace B := Hp.to (ws' := ws ++ ([(h, .inr (9, [.ref q1, .ref q2, .ref q3, .null, .null, .int 0])), (q1, .inl (ct 0, 60, .inl (fun _ => 0))), (q2, .inl (ct 0, 60, .inl (fun _ => 0))), (q3, .inl (ct 4, 180, .inr (.inr (.inr (.inr (fun _ => none))))))] : va_W)) B rfl
  refine at_pc (n := 30) rfl ?_
  refine lv_aload_n E.1.1 E.1.2.1 dX9_init_30 rfl (lv_at hl 0 rfl) ?_
  refine lv_sipush (v := 480) E.1.1 E.1.2.1 dX9_init_31 (by decide) ?_
  refine row_newa (atype := .int) (a0 := (480, .inl (fun _ => 0))) E B w_e8e14353 rfl 0 rfl (fun _ => rfl) (by decide) (by decide) (Nat.le_of_ble_eq_true rfl) (Nat.le_of_ble_eq_true rfl) (Nat.le_of_ble_eq_true rfl) dX9_init_34 ?_
  clear B
  intro q4 H B
  refine at_n (n := 36) (k1 := 4) (k2 := 780) rfl rfl rfl ?_
  refine row_putF E B iX9 rfl tyX9 tyX9_ok nmX9 3 (by decide) w_6b77f456 rfl hnm rfl (ws.length + 0) ((at_pp _ _ _ _).trans rfl) rfl rfl (Nat.le_of_ble_eq_true rfl) dX9_init_36 ?_
  clear B
  intro H locs B
  replace B := Hp.to B (set_pp ..)
  replace B := Hp.to (ws' := ws ++ ([(h, .inr (9, [.ref q1, .ref q2, .ref q3, .ref q4, .null, .int 0])), (q1, .inl (ct 0, 60, .inl (fun _ => 0))), (q2, .inl (ct 0, 60, .inl (fun _ => 0))), (q3, .inl (ct 4, 180, .inr (.inr (.inr (.inr (fun _ => none)))))), (q4, .inl (ct 0, 480, .inl (fun _ => 0)))] : va_W)) B rfl
  refine at_pc (n := 39) rfl ?_
  refine lv_aload_n E.1.1 E.1.2.1 dX9_init_39 rfl (lv_at hl 0 rfl) ?_
  refine lv_sipush (v := 480) E.1.1 E.1.2.1 dX9_init_40 (by decide) ?_
  refine row_newa (atype := .int) (a0 := (480, .inl (fun _ => 0))) E B w_e8e14353 rfl 0 rfl (fun _ => rfl) (by decide) (by decide) (Nat.le_of_ble_eq_true rfl) (Nat.le_of_ble_eq_true rfl) (Nat.le_of_ble_eq_true rfl) dX9_init_43 ?_
  clear B
  intro q5 H B
  refine at_n (n := 45) (k1 := 5) (k2 := 1260) rfl rfl rfl ?_
  refine row_putF E B iX9 rfl tyX9 tyX9_ok nmX9 4 (by decide) w_6bfa585c rfl hnm rfl (ws.length + 0) ((at_pp _ _ _ _).trans rfl) rfl rfl (Nat.le_of_ble_eq_true rfl) dX9_init_45 ?_
  clear B
  intro H locs B
  replace B := Hp.to B (set_pp ..)
  replace B := Hp.to (ws' := ws ++ ([(h, .inr (9, [.ref q1, .ref q2, .ref q3, .ref q4, .ref q5, .int 0])), (q1, .inl (ct 0, 60, .inl (fun _ => 0))), (q2, .inl (ct 0, 60, .inl (fun _ => 0))), (q3, .inl (ct 4, 180, .inr (.inr (.inr (.inr (fun _ => none)))))), (q4, .inl (ct 0, 480, .inl (fun _ => 0))), (q5, .inl (ct 0, 480, .inl (fun _ => 0)))] : va_W)) B rfl
  refine at_pc (n := 48) rfl ?_
  exact ret_V (u := (fun k => ([q1, q2, q3, q4, q5] : List Nat).getD k 0)) E hr hlk B trivial dX9_init_48
def WI4 (ct : Nat → ClassId) (tN : Nat) (ws : va_W) (h : Nat)  (u : Nat → Nat) : va_W := ws ++ ([(h, .inr (4, [.ref (u 0), .ref (u 1), .ref (u 2), .int 0, .int 0, .int 0, .int 0, .int 0])), ((u 0), .inl (ct 0, 6, .inl (fun _ => 0))), ((u 1), .inl (ct 0, 6, .inl (fun _ => 0))), ((u 2), .inl (ct 0, 6, .inl (fun _ => 0)))] : va_W)
set_option maxHeartbeats 8000000 in
set_option maxRecDepth 100000 in
theorem init_X4 (l : Launch) (D : va_G) (ct : Nat → ClassId) (tN : Nat) (ws : va_W) (h : Nat)  : MV l D (TY ct) tN yX4_init cX4_init 1 ({ frames := 1, cells := 3, slots := 18, locals := 40 } : Room) [.ref h] (ws ++ ([(h, .inr (4, [.null, .null, .null, .int 0, .int 0, .int 0, .int 0, .int 0]))] : va_W)) (fun (u : Nat → Nat) => True) (WI4 ct tN ws h ) 3 18 := by
  intro sz
  refine Met.ofE (Qc := fun A => va_Qv (fun (u : Nat → Nat) => True) (BW D A (WI4 ct tN ws h )) A) (by decide) (Nat.le_of_ble_eq_true rfl) ?_
  intro p e s m args below meth c A ls hsz E hr hlk hnm B hl
  have hnm : "<init>" = meth.name := hnm
  replace hl : lv_has ls 1 [(0, .ref h)] := hl
  refine lv_aload_n E.1.1 E.1.2.1 dX4_init_0 rfl (lv_at hl 0 rfl) ?_
  refine row_obj E w_75e9fb45 w_08b13607 w_47dee913 hl dX4_init_1 (Nat.le_of_ble_eq_true rfl) (Nat.le_of_ble_eq_true rfl) ?_
  refine lv_aload_n E.1.1 E.1.2.1 dX4_init_4 rfl (lv_at hl 0 rfl) ?_
  refine lv_bipush (v := 6) E.1.1 E.1.2.1 dX4_init_5 (by decide) ?_
  refine row_newa (atype := .int) (a0 := (6, .inl (fun _ => 0))) E B w_e8e14353 rfl 0 rfl (fun _ => rfl) (by decide) (by decide) (Nat.le_of_ble_eq_true rfl) (Nat.le_of_ble_eq_true rfl) (Nat.le_of_ble_eq_true rfl) dX4_init_7 ?_
  clear B
  intro q1 H B
  refine at_n (n := 9) (k1 := 1) (k2 := 6) rfl rfl rfl ?_
  refine row_putF E B iX4 rfl tyX4 tyX4_ok nmX4 0 (by decide) w_c760e1e1 rfl hnm rfl (ws.length + 0) ((at_pp _ _ _ _).trans rfl) rfl rfl (Nat.le_of_ble_eq_true rfl) dX4_init_9 ?_
  clear B
  intro H locs B
  replace B := Hp.to B (set_pp ..)
  replace B := Hp.to (ws' := ws ++ ([(h, .inr (4, [.ref q1, .null, .null, .int 0, .int 0, .int 0, .int 0, .int 0])), (q1, .inl (ct 0, 6, .inl (fun _ => 0)))] : va_W)) B rfl
  refine at_pc (n := 12) rfl ?_
  refine lv_aload_n E.1.1 E.1.2.1 dX4_init_12 rfl (lv_at hl 0 rfl) ?_
  refine lv_bipush (v := 6) E.1.1 E.1.2.1 dX4_init_13 (by decide) ?_
  refine row_newa (atype := .int) (a0 := (6, .inl (fun _ => 0))) E B w_e8e14353 rfl 0 rfl (fun _ => rfl) (by decide) (by decide) (Nat.le_of_ble_eq_true rfl) (Nat.le_of_ble_eq_true rfl) (Nat.le_of_ble_eq_true rfl) dX4_init_15 ?_
  clear B
  intro q2 H B
  refine at_n (n := 17) (k1 := 2) (k2 := 12) rfl rfl rfl ?_
  refine row_putF E B iX4 rfl tyX4 tyX4_ok nmX4 1 (by decide) w_90b1f295 rfl hnm rfl (ws.length + 0) ((at_pp _ _ _ _).trans rfl) rfl rfl (Nat.le_of_ble_eq_true rfl) dX4_init_17 ?_
  clear B
  intro H locs B
  replace B := Hp.to B (set_pp ..)
  replace B := Hp.to (ws' := ws ++ ([(h, .inr (4, [.ref q1, .ref q2, .null, .int 0, .int 0, .int 0, .int 0, .int 0])), (q1, .inl (ct 0, 6, .inl (fun _ => 0))), (q2, .inl (ct 0, 6, .inl (fun _ => 0)))] : va_W)) B rfl
  refine at_pc (n := 20) rfl ?_
  refine lv_aload_n E.1.1 E.1.2.1 dX4_init_20 rfl (lv_at hl 0 rfl) ?_
  refine lv_bipush (v := 6) E.1.1 E.1.2.1 dX4_init_21 (by decide) ?_
  refine row_newa (atype := .int) (a0 := (6, .inl (fun _ => 0))) E B w_e8e14353 rfl 0 rfl (fun _ => rfl) (by decide) (by decide) (Nat.le_of_ble_eq_true rfl) (Nat.le_of_ble_eq_true rfl) (Nat.le_of_ble_eq_true rfl) dX4_init_23 ?_
  clear B
  intro q3 H B
  refine at_n (n := 25) (k1 := 3) (k2 := 18) rfl rfl rfl ?_
  refine row_putF E B iX4 rfl tyX4 tyX4_ok nmX4 2 (by decide) w_c80900b6 rfl hnm rfl (ws.length + 0) ((at_pp _ _ _ _).trans rfl) rfl rfl (Nat.le_of_ble_eq_true rfl) dX4_init_25 ?_
  clear B
  intro H locs B
  replace B := Hp.to B (set_pp ..)
  replace B := Hp.to (ws' := ws ++ ([(h, .inr (4, [.ref q1, .ref q2, .ref q3, .int 0, .int 0, .int 0, .int 0, .int 0])), (q1, .inl (ct 0, 6, .inl (fun _ => 0))), (q2, .inl (ct 0, 6, .inl (fun _ => 0))), (q3, .inl (ct 0, 6, .inl (fun _ => 0)))] : va_W)) B rfl
  refine at_pc (n := 28) rfl ?_
  exact ret_V (u := (fun k => ([q1, q2, q3] : List Nat).getD k 0)) E hr hlk B trivial dX4_init_28
def WI2 (ct : Nat → ClassId) (tN : Nat) (ws : va_W) (h : Nat)  (u : Nat → Nat) : va_W := ws ++ ([(h, .inr (2, [.ref (u 0), .ref (u 1), .ref (u 2), .ref (u 3), .ref (u 4), .ref (u 5), .ref (u 6), .ref (u 7), .ref (u 8), .ref (u 9), .int 0])), ((u 0), .inl (ct 4, 20, .inr (.inr (.inr (.inr (fun _ => none)))))), ((u 1), .inl (ct 0, 20, .inl (fun _ => 0))), ((u 2), .inl (ct 0, 20, .inl (fun _ => 0))), ((u 3), .inl (ct 0, 20, .inl (fun _ => 0))), ((u 4), .inl (ct 0, 20, .inl (fun _ => 0))), ((u 5), .inl (ct 0, 320, .inl (fun _ => 0))), ((u 6), .inl (ct 0, 320, .inl (fun _ => 0))), ((u 7), .inl (ct 0, 320, .inl (fun _ => 0))), ((u 8), .inl (ct 0, 320, .inl (fun _ => 0))), ((u 9), .inl (ct 0, 320, .inl (fun _ => 0)))] : va_W)
set_option maxHeartbeats 8000000 in
set_option maxRecDepth 100000 in
theorem init_X2 (l : Launch) (D : va_G) (ct : Nat → ClassId) (tN : Nat) (ws : va_W) (h : Nat)  : MV l D (TY ct) tN yX2_init cX2_init 1 ({ frames := 1, cells := 10, slots := 1700, locals := 40 } : Room) [.ref h] (ws ++ ([(h, .inr (2, [.null, .null, .null, .null, .null, .null, .null, .null, .null, .null, .int 0]))] : va_W)) (fun (u : Nat → Nat) => True) (WI2 ct tN ws h ) 10 1700 := by
  intro sz
  refine Met.ofE (Qc := fun A => va_Qv (fun (u : Nat → Nat) => True) (BW D A (WI2 ct tN ws h )) A) (by decide) (Nat.le_of_ble_eq_true rfl) ?_
  intro p e s m args below meth c A ls hsz E hr hlk hnm B hl
  have hnm : "<init>" = meth.name := hnm
  replace hl : lv_has ls 1 [(0, .ref h)] := hl
  refine lv_aload_n E.1.1 E.1.2.1 dX2_init_0 rfl (lv_at hl 0 rfl) ?_
  refine row_obj E w_e6c69430 w_08b13607 w_47dee913 hl dX2_init_1 (Nat.le_of_ble_eq_true rfl) (Nat.le_of_ble_eq_true rfl) ?_
  refine lv_aload_n E.1.1 E.1.2.1 dX2_init_4 rfl (lv_at hl 0 rfl) ?_
  refine lv_bipush (v := 20) E.1.1 E.1.2.1 dX2_init_5 (by decide) ?_
  refine row_newqa (N' := 20) E B w_c19cc847 (by decide) (by decide) (Nat.le_of_ble_eq_true rfl) (Nat.le_of_ble_eq_true rfl) (Nat.le_of_ble_eq_true rfl) dX2_init_7 ?_
  clear B
  intro q1 H B
  refine at_n (n := 10) (k1 := 1) (k2 := 20) rfl rfl rfl ?_
  refine row_putF E B iX2 rfl tyX2 tyX2_ok nmX2 0 (by decide) w_5cb89095 rfl hnm rfl (ws.length + 0) ((at_pp _ _ _ _).trans rfl) rfl rfl (Nat.le_of_ble_eq_true rfl) dX2_init_10 ?_
  clear B
  intro H locs B
  replace B := Hp.to B (set_pp ..)
  replace B := Hp.to (ws' := ws ++ ([(h, .inr (2, [.ref q1, .null, .null, .null, .null, .null, .null, .null, .null, .null, .int 0])), (q1, .inl (ct 4, 20, .inr (.inr (.inr (.inr (fun _ => none))))))] : va_W)) B rfl
  refine at_pc (n := 13) rfl ?_
  refine lv_aload_n E.1.1 E.1.2.1 dX2_init_13 rfl (lv_at hl 0 rfl) ?_
  refine lv_bipush (v := 20) E.1.1 E.1.2.1 dX2_init_14 (by decide) ?_
  refine row_newa (atype := .int) (a0 := (20, .inl (fun _ => 0))) E B w_e8e14353 rfl 0 rfl (fun _ => rfl) (by decide) (by decide) (Nat.le_of_ble_eq_true rfl) (Nat.le_of_ble_eq_true rfl) (Nat.le_of_ble_eq_true rfl) dX2_init_16 ?_
  clear B
  intro q2 H B
  refine at_n (n := 18) (k1 := 2) (k2 := 40) rfl rfl rfl ?_
  refine row_putF E B iX2 rfl tyX2 tyX2_ok nmX2 1 (by decide) w_e650a999 rfl hnm rfl (ws.length + 0) ((at_pp _ _ _ _).trans rfl) rfl rfl (Nat.le_of_ble_eq_true rfl) dX2_init_18 ?_
  clear B
  intro H locs B
  replace B := Hp.to B (set_pp ..)
  replace B := Hp.to (ws' := ws ++ ([(h, .inr (2, [.ref q1, .ref q2, .null, .null, .null, .null, .null, .null, .null, .null, .int 0])), (q1, .inl (ct 4, 20, .inr (.inr (.inr (.inr (fun _ => none)))))), (q2, .inl (ct 0, 20, .inl (fun _ => 0)))] : va_W)) B rfl
  refine at_pc (n := 21) rfl ?_
  refine lv_aload_n E.1.1 E.1.2.1 dX2_init_21 rfl (lv_at hl 0 rfl) ?_
  refine lv_bipush (v := 20) E.1.1 E.1.2.1 dX2_init_22 (by decide) ?_
  refine row_newa (atype := .int) (a0 := (20, .inl (fun _ => 0))) E B w_e8e14353 rfl 0 rfl (fun _ => rfl) (by decide) (by decide) (Nat.le_of_ble_eq_true rfl) (Nat.le_of_ble_eq_true rfl) (Nat.le_of_ble_eq_true rfl) dX2_init_24 ?_
  clear B
  intro q3 H B
  refine at_n (n := 26) (k1 := 3) (k2 := 60) rfl rfl rfl ?_
  refine row_putF E B iX2 rfl tyX2 tyX2_ok nmX2 2 (by decide) w_5eee2ffe rfl hnm rfl (ws.length + 0) ((at_pp _ _ _ _).trans rfl) rfl rfl (Nat.le_of_ble_eq_true rfl) dX2_init_26 ?_
  clear B
  intro H locs B
  replace B := Hp.to B (set_pp ..)
  replace B := Hp.to (ws' := ws ++ ([(h, .inr (2, [.ref q1, .ref q2, .ref q3, .null, .null, .null, .null, .null, .null, .null, .int 0])), (q1, .inl (ct 4, 20, .inr (.inr (.inr (.inr (fun _ => none)))))), (q2, .inl (ct 0, 20, .inl (fun _ => 0))), (q3, .inl (ct 0, 20, .inl (fun _ => 0)))] : va_W)) B rfl
  refine at_pc (n := 29) rfl ?_
  refine lv_aload_n E.1.1 E.1.2.1 dX2_init_29 rfl (lv_at hl 0 rfl) ?_
  refine lv_bipush (v := 20) E.1.1 E.1.2.1 dX2_init_30 (by decide) ?_
  refine row_newa (atype := .int) (a0 := (20, .inl (fun _ => 0))) E B w_e8e14353 rfl 0 rfl (fun _ => rfl) (by decide) (by decide) (Nat.le_of_ble_eq_true rfl) (Nat.le_of_ble_eq_true rfl) (Nat.le_of_ble_eq_true rfl) dX2_init_32 ?_
  clear B
  intro q4 H B
  refine at_n (n := 34) (k1 := 4) (k2 := 80) rfl rfl rfl ?_
  refine row_putF E B iX2 rfl tyX2 tyX2_ok nmX2 3 (by decide) w_7cd82864 rfl hnm rfl (ws.length + 0) ((at_pp _ _ _ _).trans rfl) rfl rfl (Nat.le_of_ble_eq_true rfl) dX2_init_34 ?_
  clear B
  intro H locs B
  replace B := Hp.to B (set_pp ..)
  replace B := Hp.to (ws' := ws ++ ([(h, .inr (2, [.ref q1, .ref q2, .ref q3, .ref q4, .null, .null, .null, .null, .null, .null, .int 0])), (q1, .inl (ct 4, 20, .inr (.inr (.inr (.inr (fun _ => none)))))), (q2, .inl (ct 0, 20, .inl (fun _ => 0))), (q3, .inl (ct 0, 20, .inl (fun _ => 0))), (q4, .inl (ct 0, 20, .inl (fun _ => 0)))] : va_W)) B rfl
  refine at_pc (n := 37) rfl ?_
  refine lv_aload_n E.1.1 E.1.2.1 dX2_init_37 rfl (lv_at hl 0 rfl) ?_
  refine lv_bipush (v := 20) E.1.1 E.1.2.1 dX2_init_38 (by decide) ?_
  refine row_newa (atype := .int) (a0 := (20, .inl (fun _ => 0))) E B w_e8e14353 rfl 0 rfl (fun _ => rfl) (by decide) (by decide) (Nat.le_of_ble_eq_true rfl) (Nat.le_of_ble_eq_true rfl) (Nat.le_of_ble_eq_true rfl) dX2_init_40 ?_
  clear B
  intro q5 H B
  refine at_n (n := 42) (k1 := 5) (k2 := 100) rfl rfl rfl ?_
  refine row_putF E B iX2 rfl tyX2 tyX2_ok nmX2 4 (by decide) w_34d9f0fc rfl hnm rfl (ws.length + 0) ((at_pp _ _ _ _).trans rfl) rfl rfl (Nat.le_of_ble_eq_true rfl) dX2_init_42 ?_
  clear B
  intro H locs B
  replace B := Hp.to B (set_pp ..)
  replace B := Hp.to (ws' := ws ++ ([(h, .inr (2, [.ref q1, .ref q2, .ref q3, .ref q4, .ref q5, .null, .null, .null, .null, .null, .int 0])), (q1, .inl (ct 4, 20, .inr (.inr (.inr (.inr (fun _ => none)))))), (q2, .inl (ct 0, 20, .inl (fun _ => 0))), (q3, .inl (ct 0, 20, .inl (fun _ => 0))), (q4, .inl (ct 0, 20, .inl (fun _ => 0))), (q5, .inl (ct 0, 20, .inl (fun _ => 0)))] : va_W)) B rfl
  refine at_pc (n := 45) rfl ?_
  refine lv_aload_n E.1.1 E.1.2.1 dX2_init_45 rfl (lv_at hl 0 rfl) ?_
  refine lv_sipush (v := 320) E.1.1 E.1.2.1 dX2_init_46 (by decide) ?_
  refine row_newa (atype := .int) (a0 := (320, .inl (fun _ => 0))) E B w_e8e14353 rfl 0 rfl (fun _ => rfl) (by decide) (by decide) (Nat.le_of_ble_eq_true rfl) (Nat.le_of_ble_eq_true rfl) (Nat.le_of_ble_eq_true rfl) dX2_init_49 ?_
  clear B
  intro q6 H B
  refine at_n (n := 51) (k1 := 6) (k2 := 420) rfl rfl rfl ?_
  refine row_putF E B iX2 rfl tyX2 tyX2_ok nmX2 5 (by decide) w_97e31d16 rfl hnm rfl (ws.length + 0) ((at_pp _ _ _ _).trans rfl) rfl rfl (Nat.le_of_ble_eq_true rfl) dX2_init_51 ?_
  clear B
  intro H locs B
  replace B := Hp.to B (set_pp ..)
  replace B := Hp.to (ws' := ws ++ ([(h, .inr (2, [.ref q1, .ref q2, .ref q3, .ref q4, .ref q5, .ref q6, .null, .null, .null, .null, .int 0])), (q1, .inl (ct 4, 20, .inr (.inr (.inr (.inr (fun _ => none)))))), (q2, .inl (ct 0, 20, .inl (fun _ => 0))), (q3, .inl (ct 0, 20, .inl (fun _ => 0))), (q4, .inl (ct 0, 20, .inl (fun _ => 0))), (q5, .inl (ct 0, 20, .inl (fun _ => 0))), (q6, .inl (ct 0, 320, .inl (fun _ => 0)))] : va_W)) B rfl
  refine at_pc (n := 54) rfl ?_
  refine lv_aload_n E.1.1 E.1.2.1 dX2_init_54 rfl (lv_at hl 0 rfl) ?_
  refine lv_sipush (v := 320) E.1.1 E.1.2.1 dX2_init_55 (by decide) ?_
  refine row_newa (atype := .int) (a0 := (320, .inl (fun _ => 0))) E B w_e8e14353 rfl 0 rfl (fun _ => rfl) (by decide) (by decide) (Nat.le_of_ble_eq_true rfl) (Nat.le_of_ble_eq_true rfl) (Nat.le_of_ble_eq_true rfl) dX2_init_58 ?_
  clear B
  intro q7 H B
  refine at_n (n := 60) (k1 := 7) (k2 := 740) rfl rfl rfl ?_
  refine row_putF E B iX2 rfl tyX2 tyX2_ok nmX2 6 (by decide) w_6fa20ebf rfl hnm rfl (ws.length + 0) ((at_pp _ _ _ _).trans rfl) rfl rfl (Nat.le_of_ble_eq_true rfl) dX2_init_60 ?_
  clear B
  intro H locs B
  replace B := Hp.to B (set_pp ..)
  replace B := Hp.to (ws' := ws ++ ([(h, .inr (2, [.ref q1, .ref q2, .ref q3, .ref q4, .ref q5, .ref q6, .ref q7, .null, .null, .null, .int 0])), (q1, .inl (ct 4, 20, .inr (.inr (.inr (.inr (fun _ => none)))))), (q2, .inl (ct 0, 20, .inl (fun _ => 0))), (q3, .inl (ct 0, 20, .inl (fun _ => 0))), (q4, .inl (ct 0, 20, .inl (fun _ => 0))), (q5, .inl (ct 0, 20, .inl (fun _ => 0))), (q6, .inl (ct 0, 320, .inl (fun _ => 0))), (q7, .inl (ct 0, 320, .inl (fun _ => 0)))] : va_W)) B rfl
  refine at_pc (n := 63) rfl ?_
  refine lv_aload_n E.1.1 E.1.2.1 dX2_init_63 rfl (lv_at hl 0 rfl) ?_
  refine lv_sipush (v := 320) E.1.1 E.1.2.1 dX2_init_64 (by decide) ?_
  refine row_newa (atype := .int) (a0 := (320, .inl (fun _ => 0))) E B w_e8e14353 rfl 0 rfl (fun _ => rfl) (by decide) (by decide) (Nat.le_of_ble_eq_true rfl) (Nat.le_of_ble_eq_true rfl) (Nat.le_of_ble_eq_true rfl) dX2_init_67 ?_
  clear B
  intro q8 H B
  refine at_n (n := 69) (k1 := 8) (k2 := 1060) rfl rfl rfl ?_
  refine row_putF E B iX2 rfl tyX2 tyX2_ok nmX2 7 (by decide) w_12ca7cad rfl hnm rfl (ws.length + 0) ((at_pp _ _ _ _).trans rfl) rfl rfl (Nat.le_of_ble_eq_true rfl) dX2_init_69 ?_
  clear B
  intro H locs B
  replace B := Hp.to B (set_pp ..)
  replace B := Hp.to (ws' := ws ++ ([(h, .inr (2, [.ref q1, .ref q2, .ref q3, .ref q4, .ref q5, .ref q6, .ref q7, .ref q8, .null, .null, .int 0])), (q1, .inl (ct 4, 20, .inr (.inr (.inr (.inr (fun _ => none)))))), (q2, .inl (ct 0, 20, .inl (fun _ => 0))), (q3, .inl (ct 0, 20, .inl (fun _ => 0))), (q4, .inl (ct 0, 20, .inl (fun _ => 0))), (q5, .inl (ct 0, 20, .inl (fun _ => 0))), (q6, .inl (ct 0, 320, .inl (fun _ => 0))), (q7, .inl (ct 0, 320, .inl (fun _ => 0))), (q8, .inl (ct 0, 320, .inl (fun _ => 0)))] : va_W)) B rfl
  refine at_pc (n := 72) rfl ?_
  refine lv_aload_n E.1.1 E.1.2.1 dX2_init_72 rfl (lv_at hl 0 rfl) ?_
  refine lv_sipush (v := 320) E.1.1 E.1.2.1 dX2_init_73 (by decide) ?_
  refine row_newa (atype := .int) (a0 := (320, .inl (fun _ => 0))) E B w_e8e14353 rfl 0 rfl (fun _ => rfl) (by decide) (by decide) (Nat.le_of_ble_eq_true rfl) (Nat.le_of_ble_eq_true rfl) (Nat.le_of_ble_eq_true rfl) dX2_init_76 ?_
  clear B
  intro q9 H B
  refine at_n (n := 78) (k1 := 9) (k2 := 1380) rfl rfl rfl ?_
  refine row_putF E B iX2 rfl tyX2 tyX2_ok nmX2 8 (by decide) w_be759ffd rfl hnm rfl (ws.length + 0) ((at_pp _ _ _ _).trans rfl) rfl rfl (Nat.le_of_ble_eq_true rfl) dX2_init_78 ?_
  clear B
  intro H locs B
  replace B := Hp.to B (set_pp ..)
  replace B := Hp.to (ws' := ws ++ ([(h, .inr (2, [.ref q1, .ref q2, .ref q3, .ref q4, .ref q5, .ref q6, .ref q7, .ref q8, .ref q9, .null, .int 0])), (q1, .inl (ct 4, 20, .inr (.inr (.inr (.inr (fun _ => none)))))), (q2, .inl (ct 0, 20, .inl (fun _ => 0))), (q3, .inl (ct 0, 20, .inl (fun _ => 0))), (q4, .inl (ct 0, 20, .inl (fun _ => 0))), (q5, .inl (ct 0, 20, .inl (fun _ => 0))), (q6, .inl (ct 0, 320, .inl (fun _ => 0))), (q7, .inl (ct 0, 320, .inl (fun _ => 0))), (q8, .inl (ct 0, 320, .inl (fun _ => 0))), (q9, .inl (ct 0, 320, .inl (fun _ => 0)))] : va_W)) B rfl
  refine at_pc (n := 81) rfl ?_
  refine lv_aload_n E.1.1 E.1.2.1 dX2_init_81 rfl (lv_at hl 0 rfl) ?_
  refine lv_sipush (v := 320) E.1.1 E.1.2.1 dX2_init_82 (by decide) ?_
  refine row_newa (atype := .int) (a0 := (320, .inl (fun _ => 0))) E B w_e8e14353 rfl 0 rfl (fun _ => rfl) (by decide) (by decide) (Nat.le_of_ble_eq_true rfl) (Nat.le_of_ble_eq_true rfl) (Nat.le_of_ble_eq_true rfl) dX2_init_85 ?_
  clear B
  intro q10 H B
  refine at_n (n := 87) (k1 := 10) (k2 := 1700) rfl rfl rfl ?_
  refine row_putF E B iX2 rfl tyX2 tyX2_ok nmX2 9 (by decide) w_fb971f2f rfl hnm rfl (ws.length + 0) ((at_pp _ _ _ _).trans rfl) rfl rfl (Nat.le_of_ble_eq_true rfl) dX2_init_87 ?_
  clear B
  intro H locs B
  replace B := Hp.to B (set_pp ..)
  replace B := Hp.to (ws' := ws ++ ([(h, .inr (2, [.ref q1, .ref q2, .ref q3, .ref q4, .ref q5, .ref q6, .ref q7, .ref q8, .ref q9, .ref q10, .int 0])), (q1, .inl (ct 4, 20, .inr (.inr (.inr (.inr (fun _ => none)))))), (q2, .inl (ct 0, 20, .inl (fun _ => 0))), (q3, .inl (ct 0, 20, .inl (fun _ => 0))), (q4, .inl (ct 0, 20, .inl (fun _ => 0))), (q5, .inl (ct 0, 20, .inl (fun _ => 0))), (q6, .inl (ct 0, 320, .inl (fun _ => 0))), (q7, .inl (ct 0, 320, .inl (fun _ => 0))), (q8, .inl (ct 0, 320, .inl (fun _ => 0))), (q9, .inl (ct 0, 320, .inl (fun _ => 0))), (q10, .inl (ct 0, 320, .inl (fun _ => 0)))] : va_W)) B rfl
  refine at_pc (n := 90) rfl ?_
  exact ret_V (u := (fun k => ([q1, q2, q3, q4, q5, q6, q7, q8, q9, q10] : List Nat).getD k 0)) E hr hlk B trivial dX2_init_90
def WI8 (ct : Nat → ClassId) (tN : Nat) (ws : va_W) (h : Nat)  (u : Nat → Nat) : va_W := ws ++ ([(h, .inr (8, [.ref (u 0), .ref (u 1), .ref (u 2), .ref (u 3), .ref (u 4), .int 0, .int 0])), ((u 0), .inl (ct 5, 200, .inr (.inr (.inr (.inr (fun _ => none)))))), ((u 1), .inl (ct 0, 60, .inl (fun _ => -1))), ((u 2), .inl (ct 0, 1024, .inl (fun _ => 0))), ((u 3), .inl (ct 0, 1024, .inl (fun _ => 0))), ((u 4), .inl (ct 0, 1024, .inl (fun _ => 0)))] : va_W)
set_option maxHeartbeats 8000000 in
set_option maxRecDepth 100000 in
theorem init_X8 (l : Launch) (D : va_G) (ct : Nat → ClassId) (tN : Nat) (ws : va_W) (h : Nat)  : MV l D (TY ct) tN yX8_init cX8_init 2 ({ frames := 1, cells := 5, slots := 3332, locals := 40 } : Room) [.ref h] (ws ++ ([(h, .inr (8, [.null, .null, .null, .null, .null, .int 0, .int 0]))] : va_W)) (fun (u : Nat → Nat) => True) (WI8 ct tN ws h ) 5 3332 := by
  intro sz
  refine Met.ofE (Qc := fun A => va_Qv (fun (u : Nat → Nat) => True) (BW D A (WI8 ct tN ws h )) A) (by decide) (Nat.le_of_ble_eq_true rfl) ?_
  intro p e s m args below meth c A ls hsz E hr hlk hnm B hl
  have hnm : "<init>" = meth.name := hnm
  replace hl : lv_has ls 2 [(0, .ref h)] := hl
  refine lv_aload_n E.1.1 E.1.2.1 dX8_init_0 rfl (lv_at hl 0 rfl) ?_
  refine row_obj E w_32b2fac3 w_08b13607 w_47dee913 hl dX8_init_1 (Nat.le_of_ble_eq_true rfl) (Nat.le_of_ble_eq_true rfl) ?_
  refine lv_aload_n E.1.1 E.1.2.1 dX8_init_4 rfl (lv_at hl 0 rfl) ?_
  refine lv_sipush (v := 200) E.1.1 E.1.2.1 dX8_init_5 (by decide) ?_
  refine row_newq (N' := 200) E B w_a03202bd (by decide) (by decide) (Nat.le_of_ble_eq_true rfl) (Nat.le_of_ble_eq_true rfl) (Nat.le_of_ble_eq_true rfl) dX8_init_8 ?_
  clear B
  intro q1 H B
  refine at_n (n := 11) (k1 := 1) (k2 := 200) rfl rfl rfl ?_
  refine row_putF E B iX8 rfl tyX8 tyX8_ok nmX8 0 (by decide) w_afa4c6de rfl hnm rfl (ws.length + 0) ((at_pp _ _ _ _).trans rfl) rfl rfl (Nat.le_of_ble_eq_true rfl) dX8_init_11 ?_
  clear B
  intro H locs B
  replace B := Hp.to B (set_pp ..)
  replace B := Hp.to (ws' := ws ++ ([(h, .inr (8, [.ref q1, .null, .null, .null, .null, .int 0, .int 0])), (q1, .inl (ct 5, 200, .inr (.inr (.inr (.inr (fun _ => none))))))] : va_W)) B rfl
  refine at_pc (n := 14) rfl ?_
  refine lv_aload_n E.1.1 E.1.2.1 dX8_init_14 rfl (lv_at hl 0 rfl) ?_
  refine lv_bipush (v := 60) E.1.1 E.1.2.1 dX8_init_15 (by decide) ?_
  refine row_newa (atype := .int) (a0 := (60, .inl (fun _ => 0))) E B w_e8e14353 rfl 0 rfl (fun _ => rfl) (by decide) (by decide) (Nat.le_of_ble_eq_true rfl) (Nat.le_of_ble_eq_true rfl) (Nat.le_of_ble_eq_true rfl) dX8_init_17 ?_
  clear B
  intro q2 H B
  refine at_n (n := 19) (k1 := 2) (k2 := 260) rfl rfl rfl ?_
  refine row_putF E B iX8 rfl tyX8 tyX8_ok nmX8 1 (by decide) w_9c6a6298 rfl hnm rfl (ws.length + 0) ((at_pp _ _ _ _).trans rfl) rfl rfl (Nat.le_of_ble_eq_true rfl) dX8_init_19 ?_
  clear B
  intro H locs B
  replace B := Hp.to B (set_pp ..)
  replace B := Hp.to (ws' := ws ++ ([(h, .inr (8, [.ref q1, .ref q2, .null, .null, .null, .int 0, .int 0])), (q1, .inl (ct 5, 200, .inr (.inr (.inr (.inr (fun _ => none)))))), (q2, .inl (ct 0, 60, .inl (fun _ => 0)))] : va_W)) B rfl
  refine at_pc (n := 22) rfl ?_
  refine lv_aload_n E.1.1 E.1.2.1 dX8_init_22 rfl (lv_at hl 0 rfl) ?_
  refine lv_sipush (v := 1024) E.1.1 E.1.2.1 dX8_init_23 (by decide) ?_
  refine row_newa (atype := .int) (a0 := (1024, .inl (fun _ => 0))) E B w_e8e14353 rfl 0 rfl (fun _ => rfl) (by decide) (by decide) (Nat.le_of_ble_eq_true rfl) (Nat.le_of_ble_eq_true rfl) (Nat.le_of_ble_eq_true rfl) dX8_init_26 ?_
  clear B
  intro q3 H B
  refine at_n (n := 28) (k1 := 3) (k2 := 1284) rfl rfl rfl ?_
  refine row_putF E B iX8 rfl tyX8 tyX8_ok nmX8 2 (by decide) w_3a8d2a7b rfl hnm rfl (ws.length + 0) ((at_pp _ _ _ _).trans rfl) rfl rfl (Nat.le_of_ble_eq_true rfl) dX8_init_28 ?_
  clear B
  intro H locs B
  replace B := Hp.to B (set_pp ..)
  replace B := Hp.to (ws' := ws ++ ([(h, .inr (8, [.ref q1, .ref q2, .ref q3, .null, .null, .int 0, .int 0])), (q1, .inl (ct 5, 200, .inr (.inr (.inr (.inr (fun _ => none)))))), (q2, .inl (ct 0, 60, .inl (fun _ => 0))), (q3, .inl (ct 0, 1024, .inl (fun _ => 0)))] : va_W)) B rfl
  refine at_pc (n := 31) rfl ?_
  refine lv_aload_n E.1.1 E.1.2.1 dX8_init_31 rfl (lv_at hl 0 rfl) ?_
  refine lv_sipush (v := 1024) E.1.1 E.1.2.1 dX8_init_32 (by decide) ?_
  refine row_newa (atype := .int) (a0 := (1024, .inl (fun _ => 0))) E B w_e8e14353 rfl 0 rfl (fun _ => rfl) (by decide) (by decide) (Nat.le_of_ble_eq_true rfl) (Nat.le_of_ble_eq_true rfl) (Nat.le_of_ble_eq_true rfl) dX8_init_35 ?_
  clear B
  intro q4 H B
  refine at_n (n := 37) (k1 := 4) (k2 := 2308) rfl rfl rfl ?_
  refine row_putF E B iX8 rfl tyX8 tyX8_ok nmX8 3 (by decide) w_be58cb4c rfl hnm rfl (ws.length + 0) ((at_pp _ _ _ _).trans rfl) rfl rfl (Nat.le_of_ble_eq_true rfl) dX8_init_37 ?_
  clear B
  intro H locs B
  replace B := Hp.to B (set_pp ..)
  replace B := Hp.to (ws' := ws ++ ([(h, .inr (8, [.ref q1, .ref q2, .ref q3, .ref q4, .null, .int 0, .int 0])), (q1, .inl (ct 5, 200, .inr (.inr (.inr (.inr (fun _ => none)))))), (q2, .inl (ct 0, 60, .inl (fun _ => 0))), (q3, .inl (ct 0, 1024, .inl (fun _ => 0))), (q4, .inl (ct 0, 1024, .inl (fun _ => 0)))] : va_W)) B rfl
  refine at_pc (n := 40) rfl ?_
  refine lv_aload_n E.1.1 E.1.2.1 dX8_init_40 rfl (lv_at hl 0 rfl) ?_
  refine lv_sipush (v := 1024) E.1.1 E.1.2.1 dX8_init_41 (by decide) ?_
  refine row_newa (atype := .int) (a0 := (1024, .inl (fun _ => 0))) E B w_e8e14353 rfl 0 rfl (fun _ => rfl) (by decide) (by decide) (Nat.le_of_ble_eq_true rfl) (Nat.le_of_ble_eq_true rfl) (Nat.le_of_ble_eq_true rfl) dX8_init_44 ?_
  clear B
  intro q5 H B
  refine at_n (n := 46) (k1 := 5) (k2 := 3332) rfl rfl rfl ?_
  refine row_putF E B iX8 rfl tyX8 tyX8_ok nmX8 4 (by decide) w_ed8fc5d0 rfl hnm rfl (ws.length + 0) ((at_pp _ _ _ _).trans rfl) rfl rfl (Nat.le_of_ble_eq_true rfl) dX8_init_46 ?_
  clear B
  intro H locs B
  replace B := Hp.to B (set_pp ..)
  replace B := Hp.to (ws' := ws ++ ([(h, .inr (8, [.ref q1, .ref q2, .ref q3, .ref q4, .ref q5, .int 0, .int 0])), (q1, .inl (ct 5, 200, .inr (.inr (.inr (.inr (fun _ => none)))))), (q2, .inl (ct 0, 60, .inl (fun _ => 0))), (q3, .inl (ct 0, 1024, .inl (fun _ => 0))), (q4, .inl (ct 0, 1024, .inl (fun _ => 0))), (q5, .inl (ct 0, 1024, .inl (fun _ => 0)))] : va_W)) B rfl
  refine at_pc (n := 49) rfl ?_
  refine lv_iconst (v := 0) E.1.1 E.1.2.1 dX8_init_49 (by decide) ?_
  refine lv_istore_n (lv' := [(1, .int (0 : Int32)), (0, .ref h)]) E.1.1 E.1.2.1 dX8_init_50 rfl hl (by decide) rfl ?_
  clear hl
  intro ls hl
  have lp : ∀ (n : Nat) (i : Int32) (f : Nat → Int32) (H : Heap) (locs : List Loc) (ls : Array Slot), 0 ≤ i.toInt → i.toInt ≤ 60 → 61 ≤ i.toInt + (n : Int) → (∀ j : Nat, (j : Int) < i.toInt → f j = -1) → Hp D A s.heap (ws ++ ([(h, .inr (8, [.ref q1, .ref q2, .ref q3, .ref q4, .ref q5, .int 0, .int 0])), (q1, .inl (ct 5, 200, .inr (.inr (.inr (.inr (fun _ => none)))))), (q2, .inl (ct 0, 60, .inl f)), (q3, .inl (ct 0, 1024, .inl (fun _ => 0))), (q4, .inl (ct 0, 1024, .inl (fun _ => 0))), (q5, .inl (ct 0, 1024, .inl (fun _ => 0)))] : va_W)) H locs → lv_has ls 2 [(1, .int i), (0, .ref h)] → W p l e ({ frames := 1, cells := 5, slots := 3332, locals := 40 } : Room) s m args below meth c H locs 5 3332 (MQ below (va_Qv (fun (u : Nat → Nat) => True) (BW D A (WI8 ct tN ws h )) A) args s 5 3332 A) (F0 m 51 ls []) := by
    intro n
    induction n with
    | zero => intro i f H locs ls lo1 lo2 lo3; exfalso; omega
    | succ n ih =>
      intro i f H locs ls lo1 lo2 lo3 hf B hl
      refine lv_iload_n E.1.1 E.1.2.1 dX8_init_51 rfl (lv_at hl 0 rfl) ?_
      refine lv_bipush (v := 60) E.1.1 E.1.2.1 dX8_init_52 (by decide) ?_
      refine c_ge (tgt := 70) E rfl tI_60 dX8_init_54 (by decide) (fun cc => ?_) (fun cc => ?_)
      · have B := Hp.arr B 2 (g := fun _ => -1) rfl (fun j hj => hf j (by omega))
        replace B := Hp.to (ws' := ws ++ ([(h, .inr (8, [.ref q1, .ref q2, .ref q3, .ref q4, .ref q5, .int 0, .int 0])), (q1, .inl (ct 5, 200, .inr (.inr (.inr (.inr (fun _ => none)))))), (q2, .inl (ct 0, 60, .inl (fun _ => -1))), (q3, .inl (ct 0, 1024, .inl (fun _ => 0))), (q4, .inl (ct 0, 1024, .inl (fun _ => 0))), (q5, .inl (ct 0, 1024, .inl (fun _ => 0)))] : va_W)) B rfl
        exact ret_V (u := (fun k => ([q1, q2, q3, q4, q5] : List Nat).getD k 0)) E hr hlk B trivial dX8_init_70
      · refine lv_aload_n E.1.1 E.1.2.1 dX8_init_57 rfl (lv_at hl 1 rfl) ?_
        refine row_get (v := .ref q2) E B iX8 rfl 1 (by decide) w_9c6a6298 (ws.length + 0) ((at_p _ _ _).trans rfl) rfl dX8_init_58 ?_
        refine lv_iload_n E.1.1 E.1.2.1 dX8_init_61 rfl (lv_at hl 0 rfl) ?_
        refine lv_iconst (v := -1) E.1.1 E.1.2.1 dX8_init_62 (by decide) ?_
        refine row_iast E B (ws.length + 2) ((at_p _ _ _).trans rfl) (vp_of rfl (by omega) (by omega)) dX8_init_63 ?_
        clear B
        intro H locs B
        replace B := Hp.to B (set_p ..)
        replace B := Hp.to (ws' := ws ++ ([(h, .inr (8, [.ref q1, .ref q2, .ref q3, .ref q4, .ref q5, .int 0, .int 0])), (q1, .inl (ct 5, 200, .inr (.inr (.inr (.inr (fun _ => none)))))), (q2, .inl (ct 0, 60, .inl (upd f i.toNatClampNeg (-1)))), (q3, .inl (ct 0, 1024, .inl (fun _ => 0))), (q4, .inl (ct 0, 1024, .inl (fun _ => 0))), (q5, .inl (ct 0, 1024, .inl (fun _ => 0)))] : va_W)) B rfl
        refine i_inc (k := 0) E rfl (by decide) (by omega) (by omega) dX8_init_64 hl rfl (by decide) (fun z ls ez hl => ?_)
        replace hl : lv_has ls 2 [(1, .int z), (0, .ref h)] := hl
        refine lv_goto (tgt := 51) E.1.1 E.1.2.1 dX8_init_67 (by decide) ?_
        exact ih z _ _ _ _ (by omega) (by omega) (by omega) (by rw [ez]; exact fill_step hf rfl lo1) B hl
  exact lp 61 0 _ _ _ _ (by decide) (by decide) (by decide) (fun j hj => by have := tI_0; omega) B hl
