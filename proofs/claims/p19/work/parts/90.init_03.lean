def WI3 (ct : Nat → ClassId) (tN : Nat) (ws : va_W) (h : Nat) (x0 : Nat) (u : Nat → Nat) : va_W := ws ++ ([(h, .inr (3, [.ref x0, .ref tN, .int 0, .int 0, .int 0, .int 0, .int 0]))] : va_W)
set_option maxHeartbeats 8000000 in
set_option maxRecDepth 100000 in
theorem init_X3 (l : Launch) (D : va_G) (ct : Nat → ClassId) (tN : Nat) (ws : va_W) (h : Nat) (x0 : Nat) : MV l D (TY ct) tN yX3_init cX3_init 2 ({ frames := 1, cells := 0, slots := 0, locals := 40 } : Room) [.ref h, .ref x0] (ws ++ ([(h, .inr (3, [.null, .null, .int 0, .int 0, .int 0, .int 0, .int 0]))] : va_W)) (fun (u : Nat → Nat) => True) (WI3 ct tN ws h x0) 0 0 := by
  intro sz
  refine Met.ofE (Qc := fun A => va_Qv (fun (u : Nat → Nat) => True) (BW D A (WI3 ct tN ws h x0)) A) (by decide) (Nat.le_of_ble_eq_true rfl) ?_
  intro p e s m args below meth c A ls hsz E hr hlk hnm B hl
  have hnm : "<init>" = meth.name := hnm
  replace hl : lv_has ls 2 [(0, .ref h), (1, .ref x0)] := hl
  refine lv_aload_n E.1.1 E.1.2.1 dX3_init_0 rfl (lv_at hl 0 rfl) ?_
  refine row_obj E w_a79ac0d6 w_08b13607 w_47dee913 hl dX3_init_1 (Nat.le_of_ble_eq_true rfl) (Nat.le_of_ble_eq_true rfl) ?_
  refine lv_aload_n E.1.1 E.1.2.1 dX3_init_4 rfl (lv_at hl 0 rfl) ?_
  refine row_nothing E B (by decide +kernel) dX3_init_5 ?_
  refine row_put E B iX3 rfl tyX3 tyX3_ok nmX3 1 (by decide) w_9f7f29b8 rfl (ws.length + 0) ((at_p _ _ _).trans rfl) rfl rfl (Nat.le_of_ble_eq_true rfl) dX3_init_8 ?_
  clear B
  intro H locs B
  replace B := Hp.to B (set_p ..)
  replace B := Hp.to (ws' := ws ++ ([(h, .inr (3, [.null, .ref tN, .int 0, .int 0, .int 0, .int 0, .int 0]))] : va_W)) B rfl
  refine at_pc (n := 11) rfl ?_
  refine lv_aload_n E.1.1 E.1.2.1 dX3_init_11 rfl (lv_at hl 0 rfl) ?_
  refine lv_aload_n E.1.1 E.1.2.1 dX3_init_12 rfl (lv_at hl 1 rfl) ?_
  refine row_putF E B iX3 rfl tyX3 tyX3_ok nmX3 0 (by decide) w_bdb836f1 rfl hnm rfl (ws.length + 0) ((at_p _ _ _).trans rfl) rfl rfl (Nat.le_of_ble_eq_true rfl) dX3_init_13 ?_
  clear B
  intro H locs B
  replace B := Hp.to B (set_p ..)
  replace B := Hp.to (ws' := ws ++ ([(h, .inr (3, [.ref x0, .ref tN, .int 0, .int 0, .int 0, .int 0, .int 0]))] : va_W)) B rfl
  refine at_pc (n := 16) rfl ?_
  exact ret_V (u := (fun k => ([] : List Nat).getD k 0)) E hr hlk B trivial dX3_init_16
def WI6 (ct : Nat → ClassId) (tN : Nat) (ws : va_W) (h : Nat) (x0 : Nat) (x1 : Nat) (x2 : Nat) (u : Nat → Nat) : va_W := ws ++ ([(h, .inr (6, [.ref x0, .ref x1, .ref x2, .int 0, .int 0, .int 0, .int 0, .int 0, .int 0, .int 0, .int 0, .ref tN, .int 0, .int 0]))] : va_W)
set_option maxHeartbeats 8000000 in
set_option maxRecDepth 100000 in
theorem init_X6 (l : Launch) (D : va_G) (ct : Nat → ClassId) (tN : Nat) (ws : va_W) (h : Nat) (x0 : Nat) (x1 : Nat) (x2 : Nat) : MV l D (TY ct) tN yX6_init cX6_init 4 ({ frames := 1, cells := 0, slots := 0, locals := 40 } : Room) [.ref h, .ref x0, .ref x1, .ref x2] (ws ++ ([(h, .inr (6, [.null, .null, .null, .int 0, .int 0, .int 0, .int 0, .int 0, .int 0, .int 0, .int 0, .null, .int 0, .int 0]))] : va_W)) (fun (u : Nat → Nat) => True) (WI6 ct tN ws h x0 x1 x2) 0 0 := by
  intro sz
  refine Met.ofE (Qc := fun A => va_Qv (fun (u : Nat → Nat) => True) (BW D A (WI6 ct tN ws h x0 x1 x2)) A) (by decide) (Nat.le_of_ble_eq_true rfl) ?_
  intro p e s m args below meth c A ls hsz E hr hlk hnm B hl
  have hnm : "<init>" = meth.name := hnm
  replace hl : lv_has ls 4 [(0, .ref h), (1, .ref x0), (2, .ref x1), (3, .ref x2)] := hl
  refine lv_aload_n E.1.1 E.1.2.1 dX6_init_0 rfl (lv_at hl 0 rfl) ?_
  refine row_obj E w_b885d245 w_08b13607 w_47dee913 hl dX6_init_1 (Nat.le_of_ble_eq_true rfl) (Nat.le_of_ble_eq_true rfl) ?_
  refine lv_aload_n E.1.1 E.1.2.1 dX6_init_4 rfl (lv_at hl 0 rfl) ?_
  refine row_nothing E B (by decide +kernel) dX6_init_5 ?_
  refine row_put E B iX6 rfl tyX6 tyX6_ok nmX6 11 (by decide) w_2cfa9111 rfl (ws.length + 0) ((at_p _ _ _).trans rfl) rfl rfl (Nat.le_of_ble_eq_true rfl) dX6_init_8 ?_
  clear B
  intro H locs B
  replace B := Hp.to B (set_p ..)
  replace B := Hp.to (ws' := ws ++ ([(h, .inr (6, [.null, .null, .null, .int 0, .int 0, .int 0, .int 0, .int 0, .int 0, .int 0, .int 0, .ref tN, .int 0, .int 0]))] : va_W)) B rfl
  refine at_pc (n := 11) rfl ?_
  refine lv_aload_n E.1.1 E.1.2.1 dX6_init_11 rfl (lv_at hl 0 rfl) ?_
  refine lv_aload_n E.1.1 E.1.2.1 dX6_init_12 rfl (lv_at hl 1 rfl) ?_
  refine row_putF E B iX6 rfl tyX6 tyX6_ok nmX6 0 (by decide) w_2f6499f1 rfl hnm rfl (ws.length + 0) ((at_p _ _ _).trans rfl) rfl rfl (Nat.le_of_ble_eq_true rfl) dX6_init_13 ?_
  clear B
  intro H locs B
  replace B := Hp.to B (set_p ..)
  replace B := Hp.to (ws' := ws ++ ([(h, .inr (6, [.ref x0, .null, .null, .int 0, .int 0, .int 0, .int 0, .int 0, .int 0, .int 0, .int 0, .ref tN, .int 0, .int 0]))] : va_W)) B rfl
  refine at_pc (n := 16) rfl ?_
  refine lv_aload_n E.1.1 E.1.2.1 dX6_init_16 rfl (lv_at hl 0 rfl) ?_
  refine lv_aload_n E.1.1 E.1.2.1 dX6_init_17 rfl (lv_at hl 2 rfl) ?_
  refine row_putF E B iX6 rfl tyX6 tyX6_ok nmX6 1 (by decide) w_ee1488ed rfl hnm rfl (ws.length + 0) ((at_p _ _ _).trans rfl) rfl rfl (Nat.le_of_ble_eq_true rfl) dX6_init_18 ?_
  clear B
  intro H locs B
  replace B := Hp.to B (set_p ..)
  replace B := Hp.to (ws' := ws ++ ([(h, .inr (6, [.ref x0, .ref x1, .null, .int 0, .int 0, .int 0, .int 0, .int 0, .int 0, .int 0, .int 0, .ref tN, .int 0, .int 0]))] : va_W)) B rfl
  refine at_pc (n := 21) rfl ?_
  refine lv_aload_n E.1.1 E.1.2.1 dX6_init_21 rfl (lv_at hl 0 rfl) ?_
  refine lv_aload_n E.1.1 E.1.2.1 dX6_init_22 rfl (lv_at hl 3 rfl) ?_
  refine row_putF E B iX6 rfl tyX6 tyX6_ok nmX6 2 (by decide) w_09909e3b rfl hnm rfl (ws.length + 0) ((at_p _ _ _).trans rfl) rfl rfl (Nat.le_of_ble_eq_true rfl) dX6_init_23 ?_
  clear B
  intro H locs B
  replace B := Hp.to B (set_p ..)
  replace B := Hp.to (ws' := ws ++ ([(h, .inr (6, [.ref x0, .ref x1, .ref x2, .int 0, .int 0, .int 0, .int 0, .int 0, .int 0, .int 0, .int 0, .ref tN, .int 0, .int 0]))] : va_W)) B rfl
  refine at_pc (n := 26) rfl ?_
  exact ret_V (u := (fun k => ([] : List Nat).getD k 0)) E hr hlk B trivial dX6_init_26
def WI1 (ct : Nat → ClassId) (tN : Nat) (ws : va_W) (h : Nat) (x0 : Nat) (x1 : Nat) (x2 : Nat) (x3 : Nat) (u : Nat → Nat) : va_W := ws ++ ([(h, .inr (1, [.ref x0, .ref x1, .ref x2, .ref x3, .ref (u 0), .ref (u 1), .ref (u 2), .ref (u 3), .ref (u 4), .ref (u 5), .int 0, .int 0, .int 0])), ((u 0), .inl (ct 0, 5, .inl (fun _ => 0))), ((u 1), .inl (ct 0, 320, .inl (fun _ => 0))), ((u 2), .inl (ct 0, 420, .inl (fun _ => 0))), ((u 3), .inl (ct 0, 420, .inl (fun _ => 0))), ((u 4), .inl (ct 0, 420, .inl (fun _ => 0))), ((u 5), .inl (ct 2, 300, .inr (.inl (fun _ => 0))))] : va_W)
set_option maxHeartbeats 8000000 in
set_option maxRecDepth 100000 in
theorem init_X1 (l : Launch) (D : va_G) (ct : Nat → ClassId) (tN : Nat) (ws : va_W) (h : Nat) (x0 : Nat) (x1 : Nat) (x2 : Nat) (x3 : Nat) : MV l D (TY ct) tN yX1_init cX1_init 5 ({ frames := 1, cells := 6, slots := 1885, locals := 40 } : Room) [.ref h, .ref x0, .ref x1, .ref x2, .ref x3] (ws ++ ([(h, .inr (1, [.null, .null, .null, .null, .null, .null, .null, .null, .null, .null, .int 0, .int 0, .int 0]))] : va_W)) (fun (u : Nat → Nat) => True) (WI1 ct tN ws h x0 x1 x2 x3) 6 1885 := by
  intro sz
  refine Met.ofE (Qc := fun A => va_Qv (fun (u : Nat → Nat) => True) (BW D A (WI1 ct tN ws h x0 x1 x2 x3)) A) (by decide) (Nat.le_of_ble_eq_true rfl) ?_
  intro p e s m args below meth c A ls hsz E hr hlk hnm B hl
  have hnm : "<init>" = meth.name := hnm
  replace hl : lv_has ls 5 [(0, .ref h), (1, .ref x0), (2, .ref x1), (3, .ref x2), (4, .ref x3)] := hl
  refine lv_aload_n E.1.1 E.1.2.1 dX1_init_0 rfl (lv_at hl 0 rfl) ?_
  refine row_obj E w_c8c8bacc w_08b13607 w_47dee913 hl dX1_init_1 (Nat.le_of_ble_eq_true rfl) (Nat.le_of_ble_eq_true rfl) ?_
  refine lv_aload_n E.1.1 E.1.2.1 dX1_init_4 rfl (lv_at hl 0 rfl) ?_
  refine lv_iconst (v := 5) E.1.1 E.1.2.1 dX1_init_5 (by decide) ?_
  refine row_newa (atype := .int) (a0 := (5, .inl (fun _ => 0))) E B w_e8e14353 rfl 0 rfl (fun _ => rfl) (by decide) (by decide) (Nat.le_of_ble_eq_true rfl) (Nat.le_of_ble_eq_true rfl) (Nat.le_of_ble_eq_true rfl) dX1_init_6 ?_
  clear B
  intro q1 H B
  refine at_n (n := 8) (k1 := 1) (k2 := 5) rfl rfl rfl ?_
  refine row_putF E B iX1 rfl tyX1 tyX1_ok nmX1 4 (by decide) w_de3a11cc rfl hnm rfl (ws.length + 0) ((at_pp _ _ _ _).trans rfl) rfl rfl (Nat.le_of_ble_eq_true rfl) dX1_init_8 ?_
  clear B
  intro H locs B
  replace B := Hp.to B (set_pp ..)
  replace B := Hp.to (ws' := ws ++ ([(h, .inr (1, [.null, .null, .null, .null, .ref q1, .null, .null, .null, .null, .null, .int 0, .int 0, .int 0])), (q1, .inl (ct 0, 5, .inl (fun _ => 0)))] : va_W)) B rfl
  refine at_pc (n := 11) rfl ?_
  refine lv_aload_n E.1.1 E.1.2.1 dX1_init_11 rfl (lv_at hl 0 rfl) ?_
  refine lv_sipush (v := 320) E.1.1 E.1.2.1 dX1_init_12 (by decide) ?_
  refine row_newa (atype := .int) (a0 := (320, .inl (fun _ => 0))) E B w_e8e14353 rfl 0 rfl (fun _ => rfl) (by decide) (by decide) (Nat.le_of_ble_eq_true rfl) (Nat.le_of_ble_eq_true rfl) (Nat.le_of_ble_eq_true rfl) dX1_init_15 ?_
  clear B
  intro q2 H B
  refine at_n (n := 17) (k1 := 2) (k2 := 325) rfl rfl rfl ?_
  refine row_putF E B iX1 rfl tyX1 tyX1_ok nmX1 5 (by decide) w_2b127ce9 rfl hnm rfl (ws.length + 0) ((at_pp _ _ _ _).trans rfl) rfl rfl (Nat.le_of_ble_eq_true rfl) dX1_init_17 ?_
  clear B
  intro H locs B
  replace B := Hp.to B (set_pp ..)
  replace B := Hp.to (ws' := ws ++ ([(h, .inr (1, [.null, .null, .null, .null, .ref q1, .ref q2, .null, .null, .null, .null, .int 0, .int 0, .int 0])), (q1, .inl (ct 0, 5, .inl (fun _ => 0))), (q2, .inl (ct 0, 320, .inl (fun _ => 0)))] : va_W)) B rfl
  refine at_pc (n := 20) rfl ?_
  refine lv_aload_n E.1.1 E.1.2.1 dX1_init_20 rfl (lv_at hl 0 rfl) ?_
  refine lv_sipush (v := 420) E.1.1 E.1.2.1 dX1_init_21 (by decide) ?_
  refine row_newa (atype := .int) (a0 := (420, .inl (fun _ => 0))) E B w_e8e14353 rfl 0 rfl (fun _ => rfl) (by decide) (by decide) (Nat.le_of_ble_eq_true rfl) (Nat.le_of_ble_eq_true rfl) (Nat.le_of_ble_eq_true rfl) dX1_init_24 ?_
  clear B
  intro q3 H B
  refine at_n (n := 26) (k1 := 3) (k2 := 745) rfl rfl rfl ?_
  refine row_putF E B iX1 rfl tyX1 tyX1_ok nmX1 6 (by decide) w_8eb383b1 rfl hnm rfl (ws.length + 0) ((at_pp _ _ _ _).trans rfl) rfl rfl (Nat.le_of_ble_eq_true rfl) dX1_init_26 ?_
  clear B
  intro H locs B
  replace B := Hp.to B (set_pp ..)
  replace B := Hp.to (ws' := ws ++ ([(h, .inr (1, [.null, .null, .null, .null, .ref q1, .ref q2, .ref q3, .null, .null, .null, .int 0, .int 0, .int 0])), (q1, .inl (ct 0, 5, .inl (fun _ => 0))), (q2, .inl (ct 0, 320, .inl (fun _ => 0))), (q3, .inl (ct 0, 420, .inl (fun _ => 0)))] : va_W)) B rfl
  refine at_pc (n := 29) rfl ?_
  refine lv_aload_n E.1.1 E.1.2.1 dX1_init_29 rfl (lv_at hl 0 rfl) ?_
  refine lv_sipush (v := 420) E.1.1 E.1.2.1 dX1_init_30 (by decide) ?_
  refine row_newa (atype := .int) (a0 := (420, .inl (fun _ => 0))) E B w_e8e14353 rfl 0 rfl (fun _ => rfl) (by decide) (by decide) (Nat.le_of_ble_eq_true rfl) (Nat.le_of_ble_eq_true rfl) (Nat.le_of_ble_eq_true rfl) dX1_init_33 ?_
  clear B
  intro q4 H B
  refine at_n (n := 35) (k1 := 4) (k2 := 1165) rfl rfl rfl ?_
  refine row_putF E B iX1 rfl tyX1 tyX1_ok nmX1 7 (by decide) w_dcd5d65b rfl hnm rfl (ws.length + 0) ((at_pp _ _ _ _).trans rfl) rfl rfl (Nat.le_of_ble_eq_true rfl) dX1_init_35 ?_
  clear B
  intro H locs B
  replace B := Hp.to B (set_pp ..)
  replace B := Hp.to (ws' := ws ++ ([(h, .inr (1, [.null, .null, .null, .null, .ref q1, .ref q2, .ref q3, .ref q4, .null, .null, .int 0, .int 0, .int 0])), (q1, .inl (ct 0, 5, .inl (fun _ => 0))), (q2, .inl (ct 0, 320, .inl (fun _ => 0))), (q3, .inl (ct 0, 420, .inl (fun _ => 0))), (q4, .inl (ct 0, 420, .inl (fun _ => 0)))] : va_W)) B rfl
  refine at_pc (n := 38) rfl ?_
  refine lv_aload_n E.1.1 E.1.2.1 dX1_init_38 rfl (lv_at hl 0 rfl) ?_
  refine lv_sipush (v := 420) E.1.1 E.1.2.1 dX1_init_39 (by decide) ?_
  refine row_newa (atype := .int) (a0 := (420, .inl (fun _ => 0))) E B w_e8e14353 rfl 0 rfl (fun _ => rfl) (by decide) (by decide) (Nat.le_of_ble_eq_true rfl) (Nat.le_of_ble_eq_true rfl) (Nat.le_of_ble_eq_true rfl) dX1_init_42 ?_
  clear B
  intro q5 H B
  refine at_n (n := 44) (k1 := 5) (k2 := 1585) rfl rfl rfl ?_
  refine row_putF E B iX1 rfl tyX1 tyX1_ok nmX1 8 (by decide) w_7f0bfc95 rfl hnm rfl (ws.length + 0) ((at_pp _ _ _ _).trans rfl) rfl rfl (Nat.le_of_ble_eq_true rfl) dX1_init_44 ?_
  clear B
  intro H locs B
  replace B := Hp.to B (set_pp ..)
  replace B := Hp.to (ws' := ws ++ ([(h, .inr (1, [.null, .null, .null, .null, .ref q1, .ref q2, .ref q3, .ref q4, .ref q5, .null, .int 0, .int 0, .int 0])), (q1, .inl (ct 0, 5, .inl (fun _ => 0))), (q2, .inl (ct 0, 320, .inl (fun _ => 0))), (q3, .inl (ct 0, 420, .inl (fun _ => 0))), (q4, .inl (ct 0, 420, .inl (fun _ => 0))), (q5, .inl (ct 0, 420, .inl (fun _ => 0)))] : va_W)) B rfl
  refine at_pc (n := 47) rfl ?_
  refine lv_aload_n E.1.1 E.1.2.1 dX1_init_47 rfl (lv_at hl 0 rfl) ?_
  refine lv_sipush (v := 300) E.1.1 E.1.2.1 dX1_init_48 (by decide) ?_
  refine row_newa (atype := .long) (a0 := (300, .inr (.inl (fun _ => 0)))) E B w_e8ffffe2 rfl 2 rfl (fun _ => rfl) (by decide) (by decide) (Nat.le_of_ble_eq_true rfl) (Nat.le_of_ble_eq_true rfl) (Nat.le_of_ble_eq_true rfl) dX1_init_51 ?_
  clear B
  intro q6 H B
  refine at_n (n := 53) (k1 := 6) (k2 := 1885) rfl rfl rfl ?_
  refine row_putF E B iX1 rfl tyX1 tyX1_ok nmX1 9 (by decide) w_30f9eaff rfl hnm rfl (ws.length + 0) ((at_pp _ _ _ _).trans rfl) rfl rfl (Nat.le_of_ble_eq_true rfl) dX1_init_53 ?_
  clear B
  intro H locs B
  replace B := Hp.to B (set_pp ..)
  replace B := Hp.to (ws' := ws ++ ([(h, .inr (1, [.null, .null, .null, .null, .ref q1, .ref q2, .ref q3, .ref q4, .ref q5, .ref q6, .int 0, .int 0, .int 0])), (q1, .inl (ct 0, 5, .inl (fun _ => 0))), (q2, .inl (ct 0, 320, .inl (fun _ => 0))), (q3, .inl (ct 0, 420, .inl (fun _ => 0))), (q4, .inl (ct 0, 420, .inl (fun _ => 0))), (q5, .inl (ct 0, 420, .inl (fun _ => 0))), (q6, .inl (ct 2, 300, .inr (.inl (fun _ => 0))))] : va_W)) B rfl
  refine at_pc (n := 56) rfl ?_
  refine lv_aload_n E.1.1 E.1.2.1 dX1_init_56 rfl (lv_at hl 0 rfl) ?_
  refine lv_aload_n E.1.1 E.1.2.1 dX1_init_57 rfl (lv_at hl 1 rfl) ?_
  refine row_putF E B iX1 rfl tyX1 tyX1_ok nmX1 0 (by decide) w_5c9255b3 rfl hnm rfl (ws.length + 0) ((at_p _ _ _).trans rfl) rfl rfl (Nat.le_of_ble_eq_true rfl) dX1_init_58 ?_
  clear B
  intro H locs B
  replace B := Hp.to B (set_p ..)
  replace B := Hp.to (ws' := ws ++ ([(h, .inr (1, [.ref x0, .null, .null, .null, .ref q1, .ref q2, .ref q3, .ref q4, .ref q5, .ref q6, .int 0, .int 0, .int 0])), (q1, .inl (ct 0, 5, .inl (fun _ => 0))), (q2, .inl (ct 0, 320, .inl (fun _ => 0))), (q3, .inl (ct 0, 420, .inl (fun _ => 0))), (q4, .inl (ct 0, 420, .inl (fun _ => 0))), (q5, .inl (ct 0, 420, .inl (fun _ => 0))), (q6, .inl (ct 2, 300, .inr (.inl (fun _ => 0))))] : va_W)) B rfl
  refine at_pc (n := 61) rfl ?_
  refine lv_aload_n E.1.1 E.1.2.1 dX1_init_61 rfl (lv_at hl 0 rfl) ?_
  refine lv_aload_n E.1.1 E.1.2.1 dX1_init_62 rfl (lv_at hl 2 rfl) ?_
  refine row_putF E B iX1 rfl tyX1 tyX1_ok nmX1 1 (by decide) w_2d6bc367 rfl hnm rfl (ws.length + 0) ((at_p _ _ _).trans rfl) rfl rfl (Nat.le_of_ble_eq_true rfl) dX1_init_63 ?_
  clear B
  intro H locs B
  replace B := Hp.to B (set_p ..)
  replace B := Hp.to (ws' := ws ++ ([(h, .inr (1, [.ref x0, .ref x1, .null, .null, .ref q1, .ref q2, .ref q3, .ref q4, .ref q5, .ref q6, .int 0, .int 0, .int 0])), (q1, .inl (ct 0, 5, .inl (fun _ => 0))), (q2, .inl (ct 0, 320, .inl (fun _ => 0))), (q3, .inl (ct 0, 420, .inl (fun _ => 0))), (q4, .inl (ct 0, 420, .inl (fun _ => 0))), (q5, .inl (ct 0, 420, .inl (fun _ => 0))), (q6, .inl (ct 2, 300, .inr (.inl (fun _ => 0))))] : va_W)) B rfl
  refine at_pc (n := 66) rfl ?_
  refine lv_aload_n E.1.1 E.1.2.1 dX1_init_66 rfl (lv_at hl 0 rfl) ?_
  refine lv_aload_n E.1.1 E.1.2.1 dX1_init_67 rfl (lv_at hl 3 rfl) ?_
  refine row_putF E B iX1 rfl tyX1 tyX1_ok nmX1 2 (by decide) w_ceade7a3 rfl hnm rfl (ws.length + 0) ((at_p _ _ _).trans rfl) rfl rfl (Nat.le_of_ble_eq_true rfl) dX1_init_68 ?_
  clear B
  intro H locs B
  replace B := Hp.to B (set_p ..)
  replace B := Hp.to (ws' := ws ++ ([(h, .inr (1, [.ref x0, .ref x1, .ref x2, .null, .ref q1, .ref q2, .ref q3, .ref q4, .ref q5, .ref q6, .int 0, .int 0, .int 0])), (q1, .inl (ct 0, 5, .inl (fun _ => 0))), (q2, .inl (ct 0, 320, .inl (fun _ => 0))), (q3, .inl (ct 0, 420, .inl (fun _ => 0))), (q4, .inl (ct 0, 420, .inl (fun _ => 0))), (q5, .inl (ct 0, 420, .inl (fun _ => 0))), (q6, .inl (ct 2, 300, .inr (.inl (fun _ => 0))))] : va_W)) B rfl
  refine at_pc (n := 71) rfl ?_
  refine lv_aload_n E.1.1 E.1.2.1 dX1_init_71 rfl (lv_at hl 0 rfl) ?_
  refine lv_aload E.1.1 E.1.2.1 dX1_init_72 (lv_at hl 4 rfl) ?_
  refine row_putF E B iX1 rfl tyX1 tyX1_ok nmX1 3 (by decide) w_b1d7e7a5 rfl hnm rfl (ws.length + 0) ((at_p _ _ _).trans rfl) rfl rfl (Nat.le_of_ble_eq_true rfl) dX1_init_74 ?_
  clear B
  intro H locs B
  replace B := Hp.to B (set_p ..)
  replace B := Hp.to (ws' := ws ++ ([(h, .inr (1, [.ref x0, .ref x1, .ref x2, .ref x3, .ref q1, .ref q2, .ref q3, .ref q4, .ref q5, .ref q6, .int 0, .int 0, .int 0])), (q1, .inl (ct 0, 5, .inl (fun _ => 0))), (q2, .inl (ct 0, 320, .inl (fun _ => 0))), (q3, .inl (ct 0, 420, .inl (fun _ => 0))), (q4, .inl (ct 0, 420, .inl (fun _ => 0))), (q5, .inl (ct 0, 420, .inl (fun _ => 0))), (q6, .inl (ct 2, 300, .inr (.inl (fun _ => 0))))] : va_W)) B rfl
  refine at_pc (n := 77) rfl ?_
  exact ret_V (u := (fun k => ([q1, q2, q3, q4, q5, q6] : List Nat).getD k 0)) E hr hlk B trivial dX1_init_77
def WI0 (ct : Nat → ClassId) (tN : Nat) (ws : va_W) (h : Nat) (x0 : Nat) (x1 : Nat) (x2 : Nat) (x3 : Nat) (u : Nat → Nat) : va_W := ws ++ ([(h, .inr (0, [.ref x0, .ref x1, .ref x2, .ref x3, .ref (u 0), .ref (u 1), .ref (u 2), .ref (u 3), .ref (u 4), .ref (u 5), .ref (u 6), .int 0, .int 0, .int 0])), ((u 0), .inl (ct 0, 6, .inl (fun _ => 0))), ((u 1), .inl (ct 0, 6, .inl (fun _ => 0))), ((u 2), .inl (ct 0, 24, .inl (fun _ => 0))), ((u 3), .inl (ct 2, 40, .inr (.inl (fun _ => 0)))), ((u 4), .inl (ct 0, 24, .inl (fun _ => 0))), ((u 5), .inl (ct 3, 24, .inl (fun _ => 0))), ((u 6), .inl (ct 0, 6, .inl (fun _ => 0)))] : va_W)
set_option maxHeartbeats 8000000 in
set_option maxRecDepth 100000 in
theorem init_X0 (l : Launch) (D : va_G) (ct : Nat → ClassId) (tN : Nat) (ws : va_W) (h : Nat) (x0 : Nat) (x1 : Nat) (x2 : Nat) (x3 : Nat) : MV l D (TY ct) tN yX0_init cX0_init 5 ({ frames := 1, cells := 7, slots := 130, locals := 40 } : Room) [.ref h, .ref x0, .ref x1, .ref x2, .ref x3] (ws ++ ([(h, .inr (0, [.null, .null, .null, .null, .null, .null, .null, .null, .null, .null, .null, .int 0, .int 0, .int 0]))] : va_W)) (fun (u : Nat → Nat) => True) (WI0 ct tN ws h x0 x1 x2 x3) 7 130 := by
  intro sz
  refine Met.ofE (Qc := fun A => va_Qv (fun (u : Nat → Nat) => True) (BW D A (WI0 ct tN ws h x0 x1 x2 x3)) A) (by decide) (Nat.le_of_ble_eq_true rfl) ?_
  intro p e s m args below meth c A ls hsz E hr hlk hnm B hl
  have hnm : "<init>" = meth.name := hnm
  replace hl : lv_has ls 5 [(0, .ref h), (1, .ref x0), (2, .ref x1), (3, .ref x2), (4, .ref x3)] := hl
  refine lv_aload_n E.1.1 E.1.2.1 dX0_init_0 rfl (lv_at hl 0 rfl) ?_
  refine row_obj E w_d3d69afb w_08b13607 w_47dee913 hl dX0_init_1 (Nat.le_of_ble_eq_true rfl) (Nat.le_of_ble_eq_true rfl) ?_
  refine lv_aload_n E.1.1 E.1.2.1 dX0_init_4 rfl (lv_at hl 0 rfl) ?_
  refine lv_bipush (v := 6) E.1.1 E.1.2.1 dX0_init_5 (by decide) ?_
  refine row_newa (atype := .int) (a0 := (6, .inl (fun _ => 0))) E B w_e8e14353 rfl 0 rfl (fun _ => rfl) (by decide) (by decide) (Nat.le_of_ble_eq_true rfl) (Nat.le_of_ble_eq_true rfl) (Nat.le_of_ble_eq_true rfl) dX0_init_7 ?_
  clear B
  intro q1 H B
  refine at_n (n := 9) (k1 := 1) (k2 := 6) rfl rfl rfl ?_
  refine row_putF E B iX0 rfl tyX0 tyX0_ok nmX0 4 (by decide) w_b8ec0b93 rfl hnm rfl (ws.length + 0) ((at_pp _ _ _ _).trans rfl) rfl rfl (Nat.le_of_ble_eq_true rfl) dX0_init_9 ?_
  clear B
  intro H locs B
  replace B := Hp.to B (set_pp ..)
  replace B := Hp.to (ws' := ws ++ ([(h, .inr (0, [.null, .null, .null, .null, .ref q1, .null, .null, .null, .null, .null, .null, .int 0, .int 0, .int 0])), (q1, .inl (ct 0, 6, .inl (fun _ => 0)))] : va_W)) B rfl
  refine at_pc (n := 12) rfl ?_
  refine lv_aload_n E.1.1 E.1.2.1 dX0_init_12 rfl (lv_at hl 0 rfl) ?_
  refine lv_bipush (v := 6) E.1.1 E.1.2.1 dX0_init_13 (by decide) ?_
  refine row_newa (atype := .int) (a0 := (6, .inl (fun _ => 0))) E B w_e8e14353 rfl 0 rfl (fun _ => rfl) (by decide) (by decide) (Nat.le_of_ble_eq_true rfl) (Nat.le_of_ble_eq_true rfl) (Nat.le_of_ble_eq_true rfl) dX0_init_15 ?_
  clear B
  intro q2 H B
  refine at_n (n := 17) (k1 := 2) (k2 := 12) rfl rfl rfl ?_
  refine row_putF E B iX0 rfl tyX0 tyX0_ok nmX0 5 (by decide) w_8ca1e67d rfl hnm rfl (ws.length + 0) ((at_pp _ _ _ _).trans rfl) rfl rfl (Nat.le_of_ble_eq_true rfl) dX0_init_17 ?_
  clear B
  intro H locs B
  replace B := Hp.to B (set_pp ..)
  replace B := Hp.to (ws' := ws ++ ([(h, .inr (0, [.null, .null, .null, .null, .ref q1, .ref q2, .null, .null, .null, .null, .null, .int 0, .int 0, .int 0])), (q1, .inl (ct 0, 6, .inl (fun _ => 0))), (q2, .inl (ct 0, 6, .inl (fun _ => 0)))] : va_W)) B rfl
  refine at_pc (n := 20) rfl ?_
  refine lv_aload_n E.1.1 E.1.2.1 dX0_init_20 rfl (lv_at hl 0 rfl) ?_
  refine lv_bipush (v := 24) E.1.1 E.1.2.1 dX0_init_21 (by decide) ?_
  refine row_newa (atype := .int) (a0 := (24, .inl (fun _ => 0))) E B w_e8e14353 rfl 0 rfl (fun _ => rfl) (by decide) (by decide) (Nat.le_of_ble_eq_true rfl) (Nat.le_of_ble_eq_true rfl) (Nat.le_of_ble_eq_true rfl) dX0_init_23 ?_
  clear B
  intro q3 H B
  refine at_n (n := 25) (k1 := 3) (k2 := 36) rfl rfl rfl ?_
  refine row_putF E B iX0 rfl tyX0 tyX0_ok nmX0 6 (by decide) w_6fe33dc9 rfl hnm rfl (ws.length + 0) ((at_pp _ _ _ _).trans rfl) rfl rfl (Nat.le_of_ble_eq_true rfl) dX0_init_25 ?_
  clear B
  intro H locs B
  replace B := Hp.to B (set_pp ..)
  replace B := Hp.to (ws' := ws ++ ([(h, .inr (0, [.null, .null, .null, .null, .ref q1, .ref q2, .ref q3, .null, .null, .null, .null, .int 0, .int 0, .int 0])), (q1, .inl (ct 0, 6, .inl (fun _ => 0))), (q2, .inl (ct 0, 6, .inl (fun _ => 0))), (q3, .inl (ct 0, 24, .inl (fun _ => 0)))] : va_W)) B rfl
  refine at_pc (n := 28) rfl ?_
  refine lv_aload_n E.1.1 E.1.2.1 dX0_init_28 rfl (lv_at hl 0 rfl) ?_
  refine lv_bipush (v := 40) E.1.1 E.1.2.1 dX0_init_29 (by decide) ?_
  refine row_newa (atype := .long) (a0 := (40, .inr (.inl (fun _ => 0)))) E B w_e8ffffe2 rfl 2 rfl (fun _ => rfl) (by decide) (by decide) (Nat.le_of_ble_eq_true rfl) (Nat.le_of_ble_eq_true rfl) (Nat.le_of_ble_eq_true rfl) dX0_init_31 ?_
  clear B
  intro q4 H B
  refine at_n (n := 33) (k1 := 4) (k2 := 76) rfl rfl rfl ?_
  refine row_putF E B iX0 rfl tyX0 tyX0_ok nmX0 7 (by decide) w_b3cb3493 rfl hnm rfl (ws.length + 0) ((at_pp _ _ _ _).trans rfl) rfl rfl (Nat.le_of_ble_eq_true rfl) dX0_init_33 ?_
  clear B
  intro H locs B
  replace B := Hp.to B (set_pp ..)
  replace B := Hp.to (ws' := ws ++ ([(h, .inr (0, [.null, .null, .null, .null, .ref q1, .ref q2, .ref q3, .ref q4, .null, .null, .null, .int 0, .int 0, .int 0])), (q1, .inl (ct 0, 6, .inl (fun _ => 0))), (q2, .inl (ct 0, 6, .inl (fun _ => 0))), (q3, .inl (ct 0, 24, .inl (fun _ => 0))), (q4, .inl (ct 2, 40, .inr (.inl (fun _ => 0))))] : va_W)) B rfl
  refine at_pc (n := 36) rfl ?_
  refine lv_aload_n E.1.1 E.1.2.1 dX0_init_36 rfl (lv_at hl 0 rfl) ?_
  refine lv_bipush (v := 24) E.1.1 E.1.2.1 dX0_init_37 (by decide) ?_
  refine row_newa (atype := .int) (a0 := (24, .inl (fun _ => 0))) E B w_e8e14353 rfl 0 rfl (fun _ => rfl) (by decide) (by decide) (Nat.le_of_ble_eq_true rfl) (Nat.le_of_ble_eq_true rfl) (Nat.le_of_ble_eq_true rfl) dX0_init_39 ?_
  clear B
  intro q5 H B
  refine at_n (n := 41) (k1 := 5) (k2 := 100) rfl rfl rfl ?_
  refine row_putF E B iX0 rfl tyX0 tyX0_ok nmX0 8 (by decide) w_4dd9dd23 rfl hnm rfl (ws.length + 0) ((at_pp _ _ _ _).trans rfl) rfl rfl (Nat.le_of_ble_eq_true rfl) dX0_init_41 ?_
  clear B
  intro H locs B
  replace B := Hp.to B (set_pp ..)
  replace B := Hp.to (ws' := ws ++ ([(h, .inr (0, [.null, .null, .null, .null, .ref q1, .ref q2, .ref q3, .ref q4, .ref q5, .null, .null, .int 0, .int 0, .int 0])), (q1, .inl (ct 0, 6, .inl (fun _ => 0))), (q2, .inl (ct 0, 6, .inl (fun _ => 0))), (q3, .inl (ct 0, 24, .inl (fun _ => 0))), (q4, .inl (ct 2, 40, .inr (.inl (fun _ => 0)))), (q5, .inl (ct 0, 24, .inl (fun _ => 0)))] : va_W)) B rfl
  refine at_pc (n := 44) rfl ?_
  refine lv_aload_n E.1.1 E.1.2.1 dX0_init_44 rfl (lv_at hl 0 rfl) ?_
  refine lv_bipush (v := 24) E.1.1 E.1.2.1 dX0_init_45 (by decide) ?_
  refine row_newa (atype := .boolean) (a0 := (24, .inl (fun _ => 0))) E B w_7d01f517 rfl 3 rfl (fun _ => rfl) (by decide) (by decide) (Nat.le_of_ble_eq_true rfl) (Nat.le_of_ble_eq_true rfl) (Nat.le_of_ble_eq_true rfl) dX0_init_47 ?_
  clear B
  intro q6 H B
  refine at_n (n := 49) (k1 := 6) (k2 := 124) rfl rfl rfl ?_
  refine row_putF E B iX0 rfl tyX0 tyX0_ok nmX0 9 (by decide) w_c1be8d7e rfl hnm rfl (ws.length + 0) ((at_pp _ _ _ _).trans rfl) rfl rfl (Nat.le_of_ble_eq_true rfl) dX0_init_49 ?_
  clear B
  intro H locs B
  replace B := Hp.to B (set_pp ..)
  replace B := Hp.to (ws' := ws ++ ([(h, .inr (0, [.null, .null, .null, .null, .ref q1, .ref q2, .ref q3, .ref q4, .ref q5, .ref q6, .null, .int 0, .int 0, .int 0])), (q1, .inl (ct 0, 6, .inl (fun _ => 0))), (q2, .inl (ct 0, 6, .inl (fun _ => 0))), (q3, .inl (ct 0, 24, .inl (fun _ => 0))), (q4, .inl (ct 2, 40, .inr (.inl (fun _ => 0)))), (q5, .inl (ct 0, 24, .inl (fun _ => 0))), (q6, .inl (ct 3, 24, .inl (fun _ => 0)))] : va_W)) B rfl
  refine at_pc (n := 52) rfl ?_
  refine lv_aload_n E.1.1 E.1.2.1 dX0_init_52 rfl (lv_at hl 0 rfl) ?_
  refine lv_bipush (v := 6) E.1.1 E.1.2.1 dX0_init_53 (by decide) ?_
  refine row_newa (atype := .int) (a0 := (6, .inl (fun _ => 0))) E B w_e8e14353 rfl 0 rfl (fun _ => rfl) (by decide) (by decide) (Nat.le_of_ble_eq_true rfl) (Nat.le_of_ble_eq_true rfl) (Nat.le_of_ble_eq_true rfl) dX0_init_55 ?_
  clear B
  intro q7 H B
  refine at_n (n := 57) (k1 := 7) (k2 := 130) rfl rfl rfl ?_
  refine row_putF E B iX0 rfl tyX0 tyX0_ok nmX0 10 (by decide) w_8ae108d9 rfl hnm rfl (ws.length + 0) ((at_pp _ _ _ _).trans rfl) rfl rfl (Nat.le_of_ble_eq_true rfl) dX0_init_57 ?_
  clear B
  intro H locs B
  replace B := Hp.to B (set_pp ..)
  replace B := Hp.to (ws' := ws ++ ([(h, .inr (0, [.null, .null, .null, .null, .ref q1, .ref q2, .ref q3, .ref q4, .ref q5, .ref q6, .ref q7, .int 0, .int 0, .int 0])), (q1, .inl (ct 0, 6, .inl (fun _ => 0))), (q2, .inl (ct 0, 6, .inl (fun _ => 0))), (q3, .inl (ct 0, 24, .inl (fun _ => 0))), (q4, .inl (ct 2, 40, .inr (.inl (fun _ => 0)))), (q5, .inl (ct 0, 24, .inl (fun _ => 0))), (q6, .inl (ct 3, 24, .inl (fun _ => 0))), (q7, .inl (ct 0, 6, .inl (fun _ => 0)))] : va_W)) B rfl
  refine at_pc (n := 60) rfl ?_
  refine lv_aload_n E.1.1 E.1.2.1 dX0_init_60 rfl (lv_at hl 0 rfl) ?_
  refine lv_aload_n E.1.1 E.1.2.1 dX0_init_61 rfl (lv_at hl 1 rfl) ?_
  refine row_putF E B iX0 rfl tyX0 tyX0_ok nmX0 0 (by decide) w_d30a00c5 rfl hnm rfl (ws.length + 0) ((at_p _ _ _).trans rfl) rfl rfl (Nat.le_of_ble_eq_true rfl) dX0_init_62 ?_
  clear B
  intro H locs B
  replace B := Hp.to B (set_p ..)
  replace B := Hp.to (ws' := ws ++ ([(h, .inr (0, [.ref x0, .null, .null, .null, .ref q1, .ref q2, .ref q3, .ref q4, .ref q5, .ref q6, .ref q7, .int 0, .int 0, .int 0])), (q1, .inl (ct 0, 6, .inl (fun _ => 0))), (q2, .inl (ct 0, 6, .inl (fun _ => 0))), (q3, .inl (ct 0, 24, .inl (fun _ => 0))), (q4, .inl (ct 2, 40, .inr (.inl (fun _ => 0)))), (q5, .inl (ct 0, 24, .inl (fun _ => 0))), (q6, .inl (ct 3, 24, .inl (fun _ => 0))), (q7, .inl (ct 0, 6, .inl (fun _ => 0)))] : va_W)) B rfl
  refine at_pc (n := 65) rfl ?_
  refine lv_aload_n E.1.1 E.1.2.1 dX0_init_65 rfl (lv_at hl 0 rfl) ?_
  refine lv_aload_n E.1.1 E.1.2.1 dX0_init_66 rfl (lv_at hl 2 rfl) ?_
  refine row_putF E B iX0 rfl tyX0 tyX0_ok nmX0 1 (by decide) w_9cff2cfb rfl hnm rfl (ws.length + 0) ((at_p _ _ _).trans rfl) rfl rfl (Nat.le_of_ble_eq_true rfl) dX0_init_67 ?_
  clear B
  intro H locs B
  replace B := Hp.to B (set_p ..)
  replace B := Hp.to (ws' := ws ++ ([(h, .inr (0, [.ref x0, .ref x1, .null, .null, .ref q1, .ref q2, .ref q3, .ref q4, .ref q5, .ref q6, .ref q7, .int 0, .int 0, .int 0])), (q1, .inl (ct 0, 6, .inl (fun _ => 0))), (q2, .inl (ct 0, 6, .inl (fun _ => 0))), (q3, .inl (ct 0, 24, .inl (fun _ => 0))), (q4, .inl (ct 2, 40, .inr (.inl (fun _ => 0)))), (q5, .inl (ct 0, 24, .inl (fun _ => 0))), (q6, .inl (ct 3, 24, .inl (fun _ => 0))), (q7, .inl (ct 0, 6, .inl (fun _ => 0)))] : va_W)) B rfl
  refine at_pc (n := 70) rfl ?_
  refine lv_aload_n E.1.1 E.1.2.1 dX0_init_70 rfl (lv_at hl 0 rfl) ?_
  refine lv_aload_n E.1.1 E.1.2.1 dX0_init_71 rfl (lv_at hl 3 rfl) ?_
  refine row_putF E B iX0 rfl tyX0 tyX0_ok nmX0 2 (by decide) w_bb654b39 rfl hnm rfl (ws.length + 0) ((at_p _ _ _).trans rfl) rfl rfl (Nat.le_of_ble_eq_true rfl) dX0_init_72 ?_
  clear B
  intro H locs B
  replace B := Hp.to B (set_p ..)
  replace B := Hp.to (ws' := ws ++ ([(h, .inr (0, [.ref x0, .ref x1, .ref x2, .null, .ref q1, .ref q2, .ref q3, .ref q4, .ref q5, .ref q6, .ref q7, .int 0, .int 0, .int 0])), (q1, .inl (ct 0, 6, .inl (fun _ => 0))), (q2, .inl (ct 0, 6, .inl (fun _ => 0))), (q3, .inl (ct 0, 24, .inl (fun _ => 0))), (q4, .inl (ct 2, 40, .inr (.inl (fun _ => 0)))), (q5, .inl (ct 0, 24, .inl (fun _ => 0))), (q6, .inl (ct 3, 24, .inl (fun _ => 0))), (q7, .inl (ct 0, 6, .inl (fun _ => 0)))] : va_W)) B rfl
  refine at_pc (n := 75) rfl ?_
  refine lv_aload_n E.1.1 E.1.2.1 dX0_init_75 rfl (lv_at hl 0 rfl) ?_
  refine lv_aload E.1.1 E.1.2.1 dX0_init_76 (lv_at hl 4 rfl) ?_
  refine row_putF E B iX0 rfl tyX0 tyX0_ok nmX0 3 (by decide) w_02898297 rfl hnm rfl (ws.length + 0) ((at_p _ _ _).trans rfl) rfl rfl (Nat.le_of_ble_eq_true rfl) dX0_init_78 ?_
  clear B
  intro H locs B
  replace B := Hp.to B (set_p ..)
  replace B := Hp.to (ws' := ws ++ ([(h, .inr (0, [.ref x0, .ref x1, .ref x2, .ref x3, .ref q1, .ref q2, .ref q3, .ref q4, .ref q5, .ref q6, .ref q7, .int 0, .int 0, .int 0])), (q1, .inl (ct 0, 6, .inl (fun _ => 0))), (q2, .inl (ct 0, 6, .inl (fun _ => 0))), (q3, .inl (ct 0, 24, .inl (fun _ => 0))), (q4, .inl (ct 2, 40, .inr (.inl (fun _ => 0)))), (q5, .inl (ct 0, 24, .inl (fun _ => 0))), (q6, .inl (ct 3, 24, .inl (fun _ => 0))), (q7, .inl (ct 0, 6, .inl (fun _ => 0)))] : va_W)) B rfl
  refine at_pc (n := 81) rfl ?_
  exact ret_V (u := (fun k => ([q1, q2, q3, q4, q5, q6, q7] : List Nat).getD k 0)) E hr hlk B trivial dX0_init_81
def WI5 (ct : Nat → ClassId) (tN : Nat) (ws : va_W) (h : Nat) (x0 : Nat) (x1 : Nat) (x2 : Nat) (u : Nat → Nat) : va_W := ws ++ ([(h, .inr (5, [.ref x0, .ref x1, .ref x2, .ref (u 0), .ref (u 1), .ref (u 2), .ref (u 3), .ref (u 4), .int 0, .int 0])), ((u 0), .inl (ct 0, 8, .inl (fun _ => 0))), ((u 1), .inl (ct 0, 6, .inl (fun _ => 0))), ((u 2), .inl (ct 0, 6, .inl (fun _ => 0))), ((u 3), .inl (ct 0, 6, .inl (fun _ => 0))), ((u 4), .inl (ct 0, 6, .inl (fun _ => 0)))] : va_W)
set_option maxHeartbeats 8000000 in
set_option maxRecDepth 100000 in
theorem init_X5 (l : Launch) (D : va_G) (ct : Nat → ClassId) (tN : Nat) (ws : va_W) (h : Nat) (x0 : Nat) (x1 : Nat) (x2 : Nat) : MV l D (TY ct) tN yX5_init cX5_init 4 ({ frames := 1, cells := 5, slots := 32, locals := 40 } : Room) [.ref h, .ref x0, .ref x1, .ref x2] (ws ++ ([(h, .inr (5, [.null, .null, .null, .null, .null, .null, .null, .null, .int 0, .int 0]))] : va_W)) (fun (u : Nat → Nat) => True) (WI5 ct tN ws h x0 x1 x2) 5 32 := by
  intro sz
  refine Met.ofE (Qc := fun A => va_Qv (fun (u : Nat → Nat) => True) (BW D A (WI5 ct tN ws h x0 x1 x2)) A) (by decide) (Nat.le_of_ble_eq_true rfl) ?_
  intro p e s m args below meth c A ls hsz E hr hlk hnm B hl
  have hnm : "<init>" = meth.name := hnm
  replace hl : lv_has ls 4 [(0, .ref h), (1, .ref x0), (2, .ref x1), (3, .ref x2)] := hl
  refine lv_aload_n E.1.1 E.1.2.1 dX5_init_0 rfl (lv_at hl 0 rfl) ?_
  refine row_obj E w_01a6f0bb w_08b13607 w_47dee913 hl dX5_init_1 (Nat.le_of_ble_eq_true rfl) (Nat.le_of_ble_eq_true rfl) ?_
  refine lv_aload_n E.1.1 E.1.2.1 dX5_init_4 rfl (lv_at hl 0 rfl) ?_
  refine lv_bipush (v := 8) E.1.1 E.1.2.1 dX5_init_5 (by decide) ?_
  refine row_newa (atype := .int) (a0 := (8, .inl (fun _ => 0))) E B w_e8e14353 rfl 0 rfl (fun _ => rfl) (by decide) (by decide) (Nat.le_of_ble_eq_true rfl) (Nat.le_of_ble_eq_true rfl) (Nat.le_of_ble_eq_true rfl) dX5_init_7 ?_
  clear B
  intro q1 H B
  refine at_n (n := 9) (k1 := 1) (k2 := 8) rfl rfl rfl ?_
  refine row_putF E B iX5 rfl tyX5 tyX5_ok nmX5 3 (by decide) w_26129d30 rfl hnm rfl (ws.length + 0) ((at_pp _ _ _ _).trans rfl) rfl rfl (Nat.le_of_ble_eq_true rfl) dX5_init_9 ?_
  clear B
  intro H locs B
  replace B := Hp.to B (set_pp ..)
  replace B := Hp.to (ws' := ws ++ ([(h, .inr (5, [.null, .null, .null, .ref q1, .null, .null, .null, .null, .int 0, .int 0])), (q1, .inl (ct 0, 8, .inl (fun _ => 0)))] : va_W)) B rfl
  refine at_pc (n := 12) rfl ?_
  refine lv_aload_n E.1.1 E.1.2.1 dX5_init_12 rfl (lv_at hl 0 rfl) ?_
  refine lv_bipush (v := 6) E.1.1 E.1.2.1 dX5_init_13 (by decide) ?_
  refine row_newa (atype := .int) (a0 := (6, .inl (fun _ => 0))) E B w_e8e14353 rfl 0 rfl (fun _ => rfl) (by decide) (by decide) (Nat.le_of_ble_eq_true rfl) (Nat.le_of_ble_eq_true rfl) (Nat.le_of_ble_eq_true rfl) dX5_init_15 ?_
  clear B
  intro q2 H B
  refine at_n (n := 17) (k1 := 2) (k2 := 14) rfl rfl rfl ?_
  refine row_putF E B iX5 rfl tyX5 tyX5_ok nmX5 4 (by decide) w_969b545e rfl hnm rfl (ws.length + 0) ((at_pp _ _ _ _).trans rfl) rfl rfl (Nat.le_of_ble_eq_true rfl) dX5_init_17 ?_
  clear B
  intro H locs B
  replace B := Hp.to B (set_pp ..)
  replace B := Hp.to (ws' := ws ++ ([(h, .inr (5, [.null, .null, .null, .ref q1, .ref q2, .null, .null, .null, .int 0, .int 0])), (q1, .inl (ct 0, 8, .inl (fun _ => 0))), (q2, .inl (ct 0, 6, .inl (fun _ => 0)))] : va_W)) B rfl
  refine at_pc (n := 20) rfl ?_
  refine lv_aload_n E.1.1 E.1.2.1 dX5_init_20 rfl (lv_at hl 0 rfl) ?_
  refine lv_bipush (v := 6) E.1.1 E.1.2.1 dX5_init_21 (by decide) ?_
  refine row_newa (atype := .int) (a0 := (6, .inl (fun _ => 0))) E B w_e8e14353 rfl 0 rfl (fun _ => rfl) (by decide) (by decide) (Nat.le_of_ble_eq_true rfl) (Nat.le_of_ble_eq_true rfl) (Nat.le_of_ble_eq_true rfl) dX5_init_23 ?_
  clear B
  intro q3 H B
  refine at_n (n := 25) (k1 := 3) (k2 := 20) rfl rfl rfl ?_
  refine row_putF E B iX5 rfl tyX5 tyX5_ok nmX5 5 (by decide) w_e59d070c rfl hnm rfl (ws.length + 0) ((at_pp _ _ _ _).trans rfl) rfl rfl (Nat.le_of_ble_eq_true rfl) dX5_init_25 ?_
  clear B
  intro H locs B
  replace B := Hp.to B (set_pp ..)
  replace B := Hp.to (ws' := ws ++ ([(h, .inr (5, [.null, .null, .null, .ref q1, .ref q2, .ref q3, .null, .null, .int 0, .int 0])), (q1, .inl (ct 0, 8, .inl (fun _ => 0))), (q2, .inl (ct 0, 6, .inl (fun _ => 0))), (q3, .inl (ct 0, 6, .inl (fun _ => 0)))] : va_W)) B rfl
  refine at_pc (n := 28) rfl ?_
  refine lv_aload_n E.1.1 E.1.2.1 dX5_init_28 rfl (lv_at hl 0 rfl) ?_
  refine lv_bipush (v := 6) E.1.1 E.1.2.1 dX5_init_29 (by decide) ?_
  refine row_newa (atype := .int) (a0 := (6, .inl (fun _ => 0))) E B w_e8e14353 rfl 0 rfl (fun _ => rfl) (by decide) (by decide) (Nat.le_of_ble_eq_true rfl) (Nat.le_of_ble_eq_true rfl) (Nat.le_of_ble_eq_true rfl) dX5_init_31 ?_
  clear B
  intro q4 H B
  refine at_n (n := 33) (k1 := 4) (k2 := 26) rfl rfl rfl ?_
  refine row_putF E B iX5 rfl tyX5 tyX5_ok nmX5 6 (by decide) w_02977e6a rfl hnm rfl (ws.length + 0) ((at_pp _ _ _ _).trans rfl) rfl rfl (Nat.le_of_ble_eq_true rfl) dX5_init_33 ?_
  clear B
  intro H locs B
  replace B := Hp.to B (set_pp ..)
  replace B := Hp.to (ws' := ws ++ ([(h, .inr (5, [.null, .null, .null, .ref q1, .ref q2, .ref q3, .ref q4, .null, .int 0, .int 0])), (q1, .inl (ct 0, 8, .inl (fun _ => 0))), (q2, .inl (ct 0, 6, .inl (fun _ => 0))), (q3, .inl (ct 0, 6, .inl (fun _ => 0))), (q4, .inl (ct 0, 6, .inl (fun _ => 0)))] : va_W)) B rfl
  refine at_pc (n := 36) rfl ?_
  refine lv_aload_n E.1.1 E.1.2.1 dX5_init_36 rfl (lv_at hl 0 rfl) ?_
  refine lv_bipush (v := 6) E.1.1 E.1.2.1 dX5_init_37 (by decide) ?_
  refine row_newa (atype := .int) (a0 := (6, .inl (fun _ => 0))) E B w_e8e14353 rfl 0 rfl (fun _ => rfl) (by decide) (by decide) (Nat.le_of_ble_eq_true rfl) (Nat.le_of_ble_eq_true rfl) (Nat.le_of_ble_eq_true rfl) dX5_init_39 ?_
  clear B
  intro q5 H B
  refine at_n (n := 41) (k1 := 5) (k2 := 32) rfl rfl rfl ?_
  refine row_putF E B iX5 rfl tyX5 tyX5_ok nmX5 7 (by decide) w_223a3c49 rfl hnm rfl (ws.length + 0) ((at_pp _ _ _ _).trans rfl) rfl rfl (Nat.le_of_ble_eq_true rfl) dX5_init_41 ?_
  clear B
  intro H locs B
  replace B := Hp.to B (set_pp ..)
  replace B := Hp.to (ws' := ws ++ ([(h, .inr (5, [.null, .null, .null, .ref q1, .ref q2, .ref q3, .ref q4, .ref q5, .int 0, .int 0])), (q1, .inl (ct 0, 8, .inl (fun _ => 0))), (q2, .inl (ct 0, 6, .inl (fun _ => 0))), (q3, .inl (ct 0, 6, .inl (fun _ => 0))), (q4, .inl (ct 0, 6, .inl (fun _ => 0))), (q5, .inl (ct 0, 6, .inl (fun _ => 0)))] : va_W)) B rfl
  refine at_pc (n := 44) rfl ?_
  refine lv_aload_n E.1.1 E.1.2.1 dX5_init_44 rfl (lv_at hl 0 rfl) ?_
  refine lv_aload_n E.1.1 E.1.2.1 dX5_init_45 rfl (lv_at hl 1 rfl) ?_
  refine row_putF E B iX5 rfl tyX5 tyX5_ok nmX5 0 (by decide) w_4e23eec2 rfl hnm rfl (ws.length + 0) ((at_p _ _ _).trans rfl) rfl rfl (Nat.le_of_ble_eq_true rfl) dX5_init_46 ?_
  clear B
  intro H locs B
  replace B := Hp.to B (set_p ..)
  replace B := Hp.to (ws' := ws ++ ([(h, .inr (5, [.ref x0, .null, .null, .ref q1, .ref q2, .ref q3, .ref q4, .ref q5, .int 0, .int 0])), (q1, .inl (ct 0, 8, .inl (fun _ => 0))), (q2, .inl (ct 0, 6, .inl (fun _ => 0))), (q3, .inl (ct 0, 6, .inl (fun _ => 0))), (q4, .inl (ct 0, 6, .inl (fun _ => 0))), (q5, .inl (ct 0, 6, .inl (fun _ => 0)))] : va_W)) B rfl
  refine at_pc (n := 49) rfl ?_
  refine lv_aload_n E.1.1 E.1.2.1 dX5_init_49 rfl (lv_at hl 0 rfl) ?_
  refine lv_aload_n E.1.1 E.1.2.1 dX5_init_50 rfl (lv_at hl 2 rfl) ?_
  refine row_putF E B iX5 rfl tyX5 tyX5_ok nmX5 1 (by decide) w_2a2dd35a rfl hnm rfl (ws.length + 0) ((at_p _ _ _).trans rfl) rfl rfl (Nat.le_of_ble_eq_true rfl) dX5_init_51 ?_
  clear B
  intro H locs B
  replace B := Hp.to B (set_p ..)
  replace B := Hp.to (ws' := ws ++ ([(h, .inr (5, [.ref x0, .ref x1, .null, .ref q1, .ref q2, .ref q3, .ref q4, .ref q5, .int 0, .int 0])), (q1, .inl (ct 0, 8, .inl (fun _ => 0))), (q2, .inl (ct 0, 6, .inl (fun _ => 0))), (q3, .inl (ct 0, 6, .inl (fun _ => 0))), (q4, .inl (ct 0, 6, .inl (fun _ => 0))), (q5, .inl (ct 0, 6, .inl (fun _ => 0)))] : va_W)) B rfl
  refine at_pc (n := 54) rfl ?_
  refine lv_aload_n E.1.1 E.1.2.1 dX5_init_54 rfl (lv_at hl 0 rfl) ?_
  refine lv_aload_n E.1.1 E.1.2.1 dX5_init_55 rfl (lv_at hl 3 rfl) ?_
  refine row_putF E B iX5 rfl tyX5 tyX5_ok nmX5 2 (by decide) w_0aa8a6bb rfl hnm rfl (ws.length + 0) ((at_p _ _ _).trans rfl) rfl rfl (Nat.le_of_ble_eq_true rfl) dX5_init_56 ?_
  clear B
  intro H locs B
  replace B := Hp.to B (set_p ..)
  replace B := Hp.to (ws' := ws ++ ([(h, .inr (5, [.ref x0, .ref x1, .ref x2, .ref q1, .ref q2, .ref q3, .ref q4, .ref q5, .int 0, .int 0])), (q1, .inl (ct 0, 8, .inl (fun _ => 0))), (q2, .inl (ct 0, 6, .inl (fun _ => 0))), (q3, .inl (ct 0, 6, .inl (fun _ => 0))), (q4, .inl (ct 0, 6, .inl (fun _ => 0))), (q5, .inl (ct 0, 6, .inl (fun _ => 0)))] : va_W)) B rfl
  refine at_pc (n := 59) rfl ?_
  exact ret_V (u := (fun k => ([q1, q2, q3, q4, q5] : List Nat).getD k 0)) E hr hlk B trivial dX5_init_59
