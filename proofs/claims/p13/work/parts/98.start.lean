theorem dL_law_0 : decode cL_law 0 = .ok (.new 7, 3) := k187 (y := 0) (z := 7) hC_cL_law rfl rfl
theorem dL_law_11 : decode cL_law 11 = .ok (.dup, 1) := k89 hC_cL_law rfl
theorem dL_law_12 : decode cL_law 12 = .ok (.invokespecial 12, 3) := k183 (y := 0) (z := 12) hC_cL_law rfl rfl
theorem dL_law_15 : decode cL_law 15 = .ok (.astore_n 2, 1) := k77 hC_cL_law rfl
theorem dL_law_1569 : decode cL_law 1569 = .ok (.iinc 3 6, 3) := k132 (z := 6) hC_cL_law rfl rfl
theorem dL_law_1572 : decode cL_law 1572 = .ok (.goto (-1554), 3) := k167 (y := 249) (z := 238) hC_cL_law rfl rfl
theorem dL_law_16 : decode cL_law 16 = .ok (.iconst 0, 1) := k3 hC_cL_law rfl
theorem dL_law_17 : decode cL_law 17 = .ok (.istore_n 3, 1) := k62 hC_cL_law rfl
theorem dL_law_18 : decode cL_law 18 = .ok (.iload_n 3, 1) := k29 hC_cL_law rfl
theorem dL_law_19 : decode cL_law 19 = .ok (.aload_n 0, 1) := k42 hC_cL_law rfl
theorem dL_law_20 : decode cL_law 20 = .ok (.arraylength, 1) := k190 hC_cL_law rfl
theorem dL_law_21 : decode cL_law 21 = .ok (.bipush 6, 2) := k16 (y := 6) hC_cL_law rfl rfl
theorem dL_law_23 : decode cL_law 23 = .ok (.isub, 1) := k100 hC_cL_law rfl
theorem dL_law_24 : decode cL_law 24 = .ok (.if_icmp .gt 1551, 3) := k163 (y := 6) (z := 15) hC_cL_law rfl rfl
theorem dL_law_27 : decode cL_law 27 = .ok (.aload_n 0, 1) := k42 hC_cL_law rfl
theorem dL_law_28 : decode cL_law 28 = .ok (.iload_n 3, 1) := k29 hC_cL_law rfl
theorem dL_law_29 : decode cL_law 29 = .ok (.iaload, 1) := k46 hC_cL_law rfl
theorem dL_law_3 : decode cL_law 3 = .ok (.dup, 1) := k89 hC_cL_law rfl
theorem dL_law_30 : decode cL_law 30 = .ok (.bipush 63, 2) := k16 (y := 63) hC_cL_law rfl rfl
theorem dL_law_32 : decode cL_law 32 = .ok (.iand, 1) := k126 hC_cL_law rfl
theorem dL_law_33 : decode cL_law 33 = .ok (.tableswitch 1536 0 38 #[171, 194, 257, 290, 333, 356, 399, 422, 455, 478, 527, 580, 633, 676, 719, 762, 805, 864, 887, 910, 933, 966, 989, 1032, 1075, 1108, 1141, 1174, 1197, 1210, 1233, 1302, 1325, 1368, 1411, 1434, 1457, 1480, 1513], 171) := by decide +kernel
theorem dL_law_4 : decode cL_law 4 = .ok (.invokespecial 9, 3) := k183 (y := 0) (z := 9) hC_cL_law rfl rfl
theorem dL_law_7 : decode cL_law 7 = .ok (.astore_n 1, 1) := k76 hC_cL_law rfl
theorem dL_law_8 : decode cL_law 8 = .ok (.new 10, 3) := k187 (y := 0) (z := 10) hC_cL_law rfl rfl
theorem LI.more {D : va_G} {A : Nat → Prop} {ct : Nat → ClassId} {ad am : Nat → Nat} {tN n : Nat} {H : Heap} (h : LI D A ct ad am tN n H) : LI D A ct ad am tN (n + 1) H := by
  refine h _ (fun i0 i1 i2 i3 i4 i5 i6 i7 i8 i9 i10 i11 i12 i13 i14 i15 i16 i17 i18 i19 i20 i21 i22 i23 i24 i25 i26 i27 i28 i29 i30 i31 i32 i33 i34 i35 a1 a2 a4 a5 a7 a8 a10 a11 a13 a14 a15 a18 a19 a20 a21 a22 a23 a24 a25 a26 a29 a30 a31 a32 a43 a44 a45 a51 a52 a53 a54 a55 l46 r9n r9c og ogn ogc rtn rtc ptn ptc p0 p1 Pl j0 j1 j2 j3 j4 j5 j6 j7 j8 j9 j10 j11 j12 j13 j14 j15 j16 j17 j18 j19 j20 j21 j22 j23 j24 j25 j26 j27 j28 j29 b1 b2 b3 b4 b5 b6 b7 b8 b9 b10 b11 b12 b13 b14 b15 b16 b17 b18 b19 b20 b21 b22 b23 b24 b25 b26 b27 b28 b29 b30 b31 b32 b33 b34 b35 b36 b37 b38 b39 b40 b41 b42 b43 b44 b45 b46 b47 b48 b49 b50 b51 b52 b53 b55 b56 b57 b58 b61 b62 b63 b64 b65 b66 iam B hM hr hp hk hc hxR1 => ?_)
  exact LI.mk B hM hr hp hk (by omega) hxR1
set_option maxHeartbeats 4000000 in
theorem law_loop {p : Program} {l : Launch} {e : Env} {s : State} {m : MethodId} {below : List Frame} {meth : Method} {c : Code} {b : Nat} {xs : Nat → Int32} {L : Nat} (C0 : lw_At p s m meth c b L xs) {D : va_G} {ct : Nat → ClassId} {tN : Nat} (E : Ev p s m #[Value.ref b] c R_law 4 code D (TY ct) tN (fun q : Nat => s.heap.size ≤ q)) {ad am : Nat → Nat} (hLb : (L : Int) ≤ 3072) : ∀ (d n : Nat) (i : Int32) (H : Heap) (locs : List Loc) (cells slots : Nat) (ls : Array Slot), va_S (fun q : Nat => s.heap.size ≤ q) s.heap H locs → LI D (fun q : Nat => s.heap.size ≤ q) ct ad am tN n H → lv_has ls 4 [(3, .int i), (2, .ref (am 0)), (1, .ref (ad 0)), (0, .ref b)] → i.toInt = 6 * (n : Int) → n ≤ 512 → (L : Int) ≤ i.toInt + (d : Int) → cells ≤ 123 + 8 * n → slots ≤ 56351 + 160 * n → W p l e room_1 s m #[Value.ref b] below meth c H locs cells slots (lw_Z below #[Value.ref b] s) (F0 m 18 ls []) := by
  obtain ⟨hx, hb, hr, hml, hown, hts, hX, hbl, hlocks, hgv⟩ := id C0
  have hbA : ¬ (fun q : Nat => s.heap.size ≤ q) b := Nat.not_le.mpr hbl
  have eL : (Int32.ofNat L).toInt = (L : Int) := nI_toInt (by omega)
  have t6 : (6 : Int32).toInt = 6 := by decide
  intro d
  induction d with
  | zero =>
    intro n i H locs cells slots ls hS h hl hin hn hd hcl hsl
    refine lv_iload_n hx hb dL_law_18 rfl (lv_at hl 0 rfl) ?_
    refine lv_aload_n hx hb dL_law_19 rfl (lv_at hl 3 rfl) ?_
    refine va_slen hx hb hX hbl hbA hS dL_law_20 ?_
    refine lv_bipush (v := 6) hx hb dL_law_21 (by decide) ?_
    refine i_sub E eL t6 (by omega) (by omega) dL_law_23 (fun z ez => ?_)
    refine c_gt (tgt := 1575) E rfl ez dL_law_24 (by decide) (fun q => law_one C0 (by omega) (by omega) hS) (fun q => ?_)
    exfalso; omega
  | succ d ih =>
    intro n i H locs cells slots ls hS h hl hin hn hd hcl hsl
    refine lv_iload_n hx hb dL_law_18 rfl (lv_at hl 0 rfl) ?_
    refine lv_aload_n hx hb dL_law_19 rfl (lv_at hl 3 rfl) ?_
    refine va_slen hx hb hX hbl hbA hS dL_law_20 ?_
    refine lv_bipush (v := 6) hx hb dL_law_21 (by decide) ?_
    refine i_sub E eL t6 (by omega) (by omega) dL_law_23 (fun z ez => ?_)
    refine c_gt (tgt := 1575) E rfl ez dL_law_24 (by decide) (fun q => law_one C0 (by omega) (by omega) hS) (fun q => ?_)
    have fin : ∀ (H1 : Heap) (locs1 : List Loc) (ls1 : Array Slot), LI D (fun q : Nat => s.heap.size ≤ q) ct ad am tN (n + 1) H1 → va_S (fun q : Nat => s.heap.size ≤ q) s.heap H1 locs1 → lv_has ls1 4 [(3, .int i), (2, .ref (am 0)), (1, .ref (ad 0)), (0, .ref b)] → W p l e room_1 s m #[Value.ref b] below meth c H1 locs1 (cells + 8) (slots + 160) (lw_Z below #[Value.ref b] s) (F0 m 1569 ls1 []) := by
      intro H1 locs1 ls1 h1 hS1 hl1
      refine i_inc (k := 0) E rfl (by decide) (by omega) (by omega) dL_law_1569 hl1 rfl (by decide) (fun z1 ls ez1 hl => ?_)
      have hl : lv_has ls 4 [(3, .int z1), (2, .ref (am 0)), (1, .ref (ad 0)), (0, .ref b)] := hl
      refine lv_goto (tgt := 18) hx hb dL_law_1572 (by decide) ?_
      exact ih (n + 1) z1 H1 locs1 _ _ ls hS1 h1 hl (by omega) (by omega) (by omega) (by omega) (by omega)
    refine lv_aload_n hx hb dL_law_27 rfl (lv_at hl 3 rfl) ?_
    refine lv_iload_n hx hb dL_law_28 rfl (lv_at hl 0 rfl) ?_
    refine va_sld hx hb hX hbl hbA hS (vp_of rfl (by omega) (by omega)) dL_law_29 ?_
    refine lv_bipush (v := 63) hx hb dL_law_30 (by decide) ?_
    refine lv_iand hx hb dL_law_32 (any_i (fun y => ?_))
    refine at_pc (n := 33) rfl ?_
    rcases (show (y.toInt < 0 ∨ 38 < y.toInt) ∨ (y.toInt = 0 ∨ y.toInt = 1 ∨ y.toInt = 2 ∨ y.toInt = 3 ∨ y.toInt = 4 ∨ y.toInt = 5 ∨ y.toInt = 6 ∨ y.toInt = 7 ∨ y.toInt = 8 ∨ y.toInt = 9 ∨ y.toInt = 10 ∨ y.toInt = 11 ∨ y.toInt = 12 ∨ y.toInt = 13 ∨ y.toInt = 14 ∨ y.toInt = 15 ∨ y.toInt = 16 ∨ y.toInt = 17 ∨ y.toInt = 18 ∨ y.toInt = 19 ∨ y.toInt = 20 ∨ y.toInt = 21 ∨ y.toInt = 22 ∨ y.toInt = 23 ∨ y.toInt = 24 ∨ y.toInt = 25 ∨ y.toInt = 26 ∨ y.toInt = 27 ∨ y.toInt = 28 ∨ y.toInt = 29 ∨ y.toInt = 30 ∨ y.toInt = 31 ∨ y.toInt = 32 ∨ y.toInt = 33 ∨ y.toInt = 34 ∨ y.toInt = 35 ∨ y.toInt = 36 ∨ y.toInt = 37 ∨ y.toInt = 38) by omega) with hz | hz | hz | hz | hz | hz | hz | hz | hz | hz | hz | hz | hz | hz | hz | hz | hz | hz | hz | hz | hz | hz | hz | hz | hz | hz | hz | hz | hz | hz | hz | hz | hz | hz | hz | hz | hz | hz | hz | hz
    · refine lv_tableOut (tgt := 1569) hx hb dL_law_33 (by omega) (by decide) ?_
      refine W.widen (k := cells + 8) (n := slots + 160) (by omega) (by omega) ?_
      exact fin H locs ls h.more hS hl
    · refine lv_tableIn (off := 171) (tgt := 204) hx hb dL_law_33 (by omega) (by omega) (by rw [hz]; rfl) (by decide) ?_
      exact law_case_0 C0 E hS h hl (by omega) (by omega) hLb hin (by omega) (by omega) fin
    · refine lv_tableIn (off := 194) (tgt := 227) hx hb dL_law_33 (by omega) (by omega) (by rw [hz]; rfl) (by decide) ?_
      exact law_case_1 C0 E hS h hl (by omega) (by omega) hLb hin (by omega) (by omega) fin
    · refine lv_tableIn (off := 257) (tgt := 290) hx hb dL_law_33 (by omega) (by omega) (by rw [hz]; rfl) (by decide) ?_
      exact law_case_2 C0 E hS h hl (by omega) (by omega) hLb hin (by omega) (by omega) fin
    · refine lv_tableIn (off := 290) (tgt := 323) hx hb dL_law_33 (by omega) (by omega) (by rw [hz]; rfl) (by decide) ?_
      exact law_case_3 C0 E hS h hl (by omega) (by omega) hLb hin (by omega) (by omega) fin
    · refine lv_tableIn (off := 333) (tgt := 366) hx hb dL_law_33 (by omega) (by omega) (by rw [hz]; rfl) (by decide) ?_
      exact law_case_4 C0 E hS h hl (by omega) (by omega) hLb hin (by omega) (by omega) fin
    · refine lv_tableIn (off := 356) (tgt := 389) hx hb dL_law_33 (by omega) (by omega) (by rw [hz]; rfl) (by decide) ?_
      exact law_case_5 C0 E hS h hl (by omega) (by omega) hLb hin (by omega) (by omega) fin
    · refine lv_tableIn (off := 399) (tgt := 432) hx hb dL_law_33 (by omega) (by omega) (by rw [hz]; rfl) (by decide) ?_
      exact law_case_6 C0 E hS h hl (by omega) (by omega) hLb hin (by omega) (by omega) fin
    · refine lv_tableIn (off := 422) (tgt := 455) hx hb dL_law_33 (by omega) (by omega) (by rw [hz]; rfl) (by decide) ?_
      exact law_case_7 C0 E hS h hl (by omega) (by omega) hLb hin (by omega) (by omega) fin
    · refine lv_tableIn (off := 455) (tgt := 488) hx hb dL_law_33 (by omega) (by omega) (by rw [hz]; rfl) (by decide) ?_
      exact law_case_8 C0 E hS h hl (by omega) (by omega) hLb hin (by omega) (by omega) fin
    · refine lv_tableIn (off := 478) (tgt := 511) hx hb dL_law_33 (by omega) (by omega) (by rw [hz]; rfl) (by decide) ?_
      exact law_case_9 C0 E hS h hl (by omega) (by omega) hLb hin (by omega) (by omega) fin
    · refine lv_tableIn (off := 527) (tgt := 560) hx hb dL_law_33 (by omega) (by omega) (by rw [hz]; rfl) (by decide) ?_
      exact law_case_10 C0 E hS h hl (by omega) (by omega) hLb hin (by omega) (by omega) fin
    · refine lv_tableIn (off := 580) (tgt := 613) hx hb dL_law_33 (by omega) (by omega) (by rw [hz]; rfl) (by decide) ?_
      exact law_case_11 C0 E hS h hl (by omega) (by omega) hLb hin (by omega) (by omega) fin
    · refine lv_tableIn (off := 633) (tgt := 666) hx hb dL_law_33 (by omega) (by omega) (by rw [hz]; rfl) (by decide) ?_
      exact law_case_12 C0 E hS h hl (by omega) (by omega) hLb hin (by omega) (by omega) fin
    · refine lv_tableIn (off := 676) (tgt := 709) hx hb dL_law_33 (by omega) (by omega) (by rw [hz]; rfl) (by decide) ?_
      exact law_case_13 C0 E hS h hl (by omega) (by omega) hLb hin (by omega) (by omega) fin
    · refine lv_tableIn (off := 719) (tgt := 752) hx hb dL_law_33 (by omega) (by omega) (by rw [hz]; rfl) (by decide) ?_
      exact law_case_14 C0 E hS h hl (by omega) (by omega) hLb hin (by omega) (by omega) fin
    · refine lv_tableIn (off := 762) (tgt := 795) hx hb dL_law_33 (by omega) (by omega) (by rw [hz]; rfl) (by decide) ?_
      exact law_case_15 C0 E hS h hl (by omega) (by omega) hLb hin (by omega) (by omega) fin
    · refine lv_tableIn (off := 805) (tgt := 838) hx hb dL_law_33 (by omega) (by omega) (by rw [hz]; rfl) (by decide) ?_
      exact law_case_16 C0 E hS h hl (by omega) (by omega) hLb hin (by omega) (by omega) fin
    · refine lv_tableIn (off := 864) (tgt := 897) hx hb dL_law_33 (by omega) (by omega) (by rw [hz]; rfl) (by decide) ?_
      exact law_case_17 C0 E hS h hl (by omega) (by omega) hLb hin (by omega) (by omega) fin
    · refine lv_tableIn (off := 887) (tgt := 920) hx hb dL_law_33 (by omega) (by omega) (by rw [hz]; rfl) (by decide) ?_
      exact law_case_18 C0 E hS h hl (by omega) (by omega) hLb hin (by omega) (by omega) fin
    · refine lv_tableIn (off := 910) (tgt := 943) hx hb dL_law_33 (by omega) (by omega) (by rw [hz]; rfl) (by decide) ?_
      exact law_case_19 C0 E hS h hl (by omega) (by omega) hLb hin (by omega) (by omega) fin
    · refine lv_tableIn (off := 933) (tgt := 966) hx hb dL_law_33 (by omega) (by omega) (by rw [hz]; rfl) (by decide) ?_
      exact law_case_20 C0 E hS h hl (by omega) (by omega) hLb hin (by omega) (by omega) fin
    · refine lv_tableIn (off := 966) (tgt := 999) hx hb dL_law_33 (by omega) (by omega) (by rw [hz]; rfl) (by decide) ?_
      exact law_case_21 C0 E hS h hl (by omega) (by omega) hLb hin (by omega) (by omega) fin
    · refine lv_tableIn (off := 989) (tgt := 1022) hx hb dL_law_33 (by omega) (by omega) (by rw [hz]; rfl) (by decide) ?_
      exact law_case_22 C0 E hS h hl (by omega) (by omega) hLb hin (by omega) (by omega) fin
    · refine lv_tableIn (off := 1032) (tgt := 1065) hx hb dL_law_33 (by omega) (by omega) (by rw [hz]; rfl) (by decide) ?_
      exact law_case_23 C0 E hS h hl (by omega) (by omega) hLb hin (by omega) (by omega) fin
    · refine lv_tableIn (off := 1075) (tgt := 1108) hx hb dL_law_33 (by omega) (by omega) (by rw [hz]; rfl) (by decide) ?_
      exact law_case_24 C0 E hS h hl (by omega) (by omega) hLb hin (by omega) (by omega) fin
    · refine lv_tableIn (off := 1108) (tgt := 1141) hx hb dL_law_33 (by omega) (by omega) (by rw [hz]; rfl) (by decide) ?_
      exact law_case_25 C0 E hS h hl (by omega) (by omega) hLb hin (by omega) (by omega) fin
    · refine lv_tableIn (off := 1141) (tgt := 1174) hx hb dL_law_33 (by omega) (by omega) (by rw [hz]; rfl) (by decide) ?_
      exact law_case_26 C0 E hS h hl (by omega) (by omega) hLb hin (by omega) (by omega) fin
    · refine lv_tableIn (off := 1174) (tgt := 1207) hx hb dL_law_33 (by omega) (by omega) (by rw [hz]; rfl) (by decide) ?_
      exact law_case_27 C0 E hS h hl (by omega) (by omega) hLb hin (by omega) (by omega) fin
    · refine lv_tableIn (off := 1197) (tgt := 1230) hx hb dL_law_33 (by omega) (by omega) (by rw [hz]; rfl) (by decide) ?_
      exact law_case_28 C0 E hS h hl (by omega) (by omega) hLb hin (by omega) (by omega) fin
    · refine lv_tableIn (off := 1210) (tgt := 1243) hx hb dL_law_33 (by omega) (by omega) (by rw [hz]; rfl) (by decide) ?_
      exact law_case_29 C0 E hS h hl (by omega) (by omega) hLb hin (by omega) (by omega) fin
    · refine lv_tableIn (off := 1233) (tgt := 1266) hx hb dL_law_33 (by omega) (by omega) (by rw [hz]; rfl) (by decide) ?_
      exact law_case_30 C0 E hS h hl (by omega) (by omega) hLb hin (by omega) (by omega) fin
    · refine lv_tableIn (off := 1302) (tgt := 1335) hx hb dL_law_33 (by omega) (by omega) (by rw [hz]; rfl) (by decide) ?_
      exact law_case_31 C0 E hS h hl (by omega) (by omega) hLb hin (by omega) (by omega) fin
    · refine lv_tableIn (off := 1325) (tgt := 1358) hx hb dL_law_33 (by omega) (by omega) (by rw [hz]; rfl) (by decide) ?_
      exact law_case_32 C0 E hS h hl (by omega) (by omega) hLb hin (by omega) (by omega) fin
    · refine lv_tableIn (off := 1368) (tgt := 1401) hx hb dL_law_33 (by omega) (by omega) (by rw [hz]; rfl) (by decide) ?_
      exact law_case_33 C0 E hS h hl (by omega) (by omega) hLb hin (by omega) (by omega) fin
    · refine lv_tableIn (off := 1411) (tgt := 1444) hx hb dL_law_33 (by omega) (by omega) (by rw [hz]; rfl) (by decide) ?_
      exact law_case_34 C0 E hS h hl (by omega) (by omega) hLb hin (by omega) (by omega) fin
    · refine lv_tableIn (off := 1434) (tgt := 1467) hx hb dL_law_33 (by omega) (by omega) (by rw [hz]; rfl) (by decide) ?_
      exact law_case_35 C0 E hS h hl (by omega) (by omega) hLb hin (by omega) (by omega) fin
    · refine lv_tableIn (off := 1457) (tgt := 1490) hx hb dL_law_33 (by omega) (by omega) (by rw [hz]; rfl) (by decide) ?_
      exact law_case_36 C0 E hS h hl (by omega) (by omega) hLb hin (by omega) (by omega) fin
    · refine lv_tableIn (off := 1480) (tgt := 1513) hx hb dL_law_33 (by omega) (by omega) (by rw [hz]; rfl) (by decide) ?_
      exact law_case_37 C0 E hS h hl (by omega) (by omega) hLb hin (by omega) (by omega) fin
    · refine lv_tableIn (off := 1513) (tgt := 1546) hx hb dL_law_33 (by omega) (by omega) (by rw [hz]; rfl) (by decide) ?_
      exact law_case_38 C0 E hS h hl (by omega) (by omega) hLb hin (by omega) (by omega) fin
theorem whole_start {p : Program} {e : Env} {s : State} {m : MethodId} {below : List Frame} {meth : Method} {c : Code} (l : Launch) (hflags : l.flags = flags0) {b L : Nat} {xs : Nat → Int32} (hL : L ≤ 3072) (C0 : lw_At p s m meth c b L xs) : W p l e room_1 s m #[Value.ref b] below meth c s.heap [] 0 0 (lw_Z below #[Value.ref b] s) (entryFrame m ([Value.ref b] : List Value).toArray 4) := by
  obtain ⟨hx, hb, hr, hml, hown, hts, hX, hbl, hlocks, hgv⟩ := id C0
  have hbA : ¬ (fun q : Nat => s.heap.size ≤ q) b := Nat.not_le.mpr hbl
  obtain ⟨D, ct, tN, E⟩ := law_env C0
  have B : Hp D (fun q : Nat => s.heap.size ≤ q) s.heap [] s.heap [] := ⟨fun k q h => by simp at h, ⟨fun i j p q h => by simp at h, fun k q h => by simp at h⟩, va_S.rf⟩
  have hl := lv_entry ([.ref b]) (n := 4) (Nat.le_of_ble_eq_true rfl)
  rw [lg_entry_eq]
  generalize (lg_sl ([.ref b]) ++ List.replicate (4 - (lg_sl ([.ref b])).length) Slot.unset).toArray = ls at hl ⊢
  have hl : lv_has ls 4 [(0, .ref b)] := hl
  refine row_new (ci := 11) (fs := [.null, .null, .null, .null, .null, .null, .null, .null, .null, .null, .null, .null, .int 0, .int 0]) E B iX11 rfl tyX11 tyX11_ok w_aabdd921 w_1554fdbb w_93c426f0 (fun j hj => hd_11 j hj) (Nat.le_of_ble_eq_true rfl) (Nat.le_of_ble_eq_true rfl) dL_law_0 (fun hx1 H B => ?_)
  refine at_n (n := 3) (k1 := 1) (k2 := 14) rfl rfl rfl ?_
  refine lv_dup hx hb dL_law_3 rfl ?_
  have M11 := init_X11 l D ct tN [] hx1
  refine call_IV (kn := 0) (As := []) (rest := [.ref hx1]) (rm := ({ frames := 2, cells := 55, slots := 13863, locals := 120 } : Room)) (mc := 55) (ms := 13863) E B M11 (ws_good w_1aeae1c4) w_93c426f0 w_9c13f5ab w_5a5bfc68 rfl (by decide +kernel) rfl rfl rfl ⟨Nat.le_of_ble_eq_true rfl, Nat.le_of_ble_eq_true rfl⟩ rfl hl (Nat.le_of_ble_eq_true rfl) dL_law_4 ⟨Nat.le_of_ble_eq_true rfl, Nat.le_of_ble_eq_true rfl⟩ (fun uhx1 H locs _ B => ?_)
  refine at_n (n := 7) (k1 := 56) (k2 := 13877) rfl rfl rfl ?_
  have B2 := Hp.to B (xw_of ct tN hx1 uhx1)
  clear B
  have ha0 : hx1 = (fun k => if k = 0 then hx1 else uhx1 (k - 1)) 0 := rfl
  generalize (fun k => if k = 0 then hx1 else uhx1 (k - 1)) = ad at B2 ha0
  subst ha0
  have B := B2
  refine lv_astore_n (lv' := [(1, .ref (ad 0)), (0, .ref b)]) hx hb dL_law_7 rfl hl (by decide) rfl (fun ls hl => ?_)
  refine row_new (ci := 12) (fs := [.null, .int 0, .int 0, .int 0, .int 0, .int 0, .int 0, .int 0, .int 0, .int 0, .null, .null, .null, .null, .null, .null, .null, .null, .null, .null, .null, .null, .null, .null, .null, .null, .null, .null, .null, .null, .null, .null, .null, .null, .null, .int 0, .int 0, .int 0, .int 0, .int 0, .int 0, .int 0, .int 0, .int 0, .null, .null, .null, .null, .null, .null, .null, .null, .null, .null, .null, .null, .null, .null, .null, .null, .null, .null, .null, .null, .null, .null, .null, .null, .int 0, .null, .null, .null, .int 0, .int 0, .int 0, .int 0, .int 0, .int 0, .int 0, .null, .int 0, .null, .null, .null, .null, .null, .null, .null, .null, .int 0, .null, .int 0, .int 0, .null, .null, .null]) E B iX12 rfl tyX12 tyX12_ok w_577dbde8 w_d57ff128 w_2e12d08c (fun j hj => hd_12 j hj) (Nat.le_of_ble_eq_true rfl) (Nat.le_of_ble_eq_true rfl) dL_law_8 (fun hm1 H B => ?_)
  refine at_n (n := 11) (k1 := 57) (k2 := 13973) rfl rfl rfl ?_
  refine lv_dup hx hb dL_law_11 rfl ?_
  have M12 := init_X12 l D ct tN (XW ct ad iv0 iaX la0 (ptN tN) ra0 []) hm1
  refine call_IV (kn := 0) (As := []) (rest := [.ref hm1]) (rm := ({ frames := 1, cells := 66, slots := 42378, locals := 40 } : Room)) (mc := 66) (ms := 42378) E B M12 (ws_good w_a183a901) w_2e12d08c w_5388a70a w_d19c1532 rfl (by decide +kernel) rfl rfl rfl ⟨Nat.le_of_ble_eq_true rfl, Nat.le_of_ble_eq_true rfl⟩ rfl hl (Nat.le_of_ble_eq_true rfl) dL_law_12 ⟨Nat.le_of_ble_eq_true rfl, Nat.le_of_ble_eq_true rfl⟩ (fun uhm1 H locs _ B => ?_)
  refine at_n (n := 15) (k1 := 123) (k2 := 56351) rfl rfl rfl ?_
  have B3 := Hp.to B (mw_of ct tN hm1 uhm1 (XW ct ad iv0 iaX la0 (ptN tN) ra0 []))
  clear B
  have ha0 : hm1 = (fun k => if k = 0 then hm1 else uhm1 (k - 1)) 0 := rfl
  generalize (fun k => if k = 0 then hm1 else uhm1 (k - 1)) = am at B3 ha0
  subst ha0
  have B := B3
  refine lv_astore_n (lv' := [(2, .ref (am 0)), (1, .ref (ad 0)), (0, .ref b)]) hx hb dL_law_15 rfl hl (by decide) rfl (fun ls hl => ?_)
  refine lv_iconst (v := 0) hx hb dL_law_16 (by decide) ?_
  refine lv_istore_n (lv' := [(3, .int 0), (2, .ref (am 0)), (1, .ref (ad 0)), (0, .ref b)]) hx hb dL_law_17 rfl hl (by decide) rfl (fun ls hl => ?_)
  refine at_pc (n := 18) rfl ?_
  exact law_loop C0 E (by omega) L 0 0 _ _ _ _ ls B.2.2 (LI.zero B.1 B.2.1) hl (by rw [tI_0]; rfl) (Nat.zero_le _) (by rw [tI_0]; omega) (Nat.le_refl _) (Nat.le_refl _)
-- ===== YOUR PART ENDS =====
set_option maxHeartbeats 4000000 in
theorem lw_walk (l : Launch) (hflags : l.flags = flags0) (b : Addr) (xs : List Int32) : MetFree l x (headSpec (Jvm.Cond.code x code maxLocals ret :: tables_1) room_1) (lw_P b xs) (fun _ _ _ _ _ => True) lw_Q := by
  refine MetFree.of_bodyS (code := code) (maxLocals := maxLocals) (ret := ret) (by decide) ?_ ?_
  · intro args s m h hn
    obtain ⟨meth, c, h1, h2, h3, h4, h5, h6, -, -⟩ := Cond.code_spec hn (atoms_spec (ws := Jvm.Cond.code x code maxLocals ret :: tables_1) h _ List.mem_cons_self)
    exact ⟨meth, c, h1, h2, h3, h4, h5, h6⟩
  · intro p e s m args below meth c s₁ B hml0 hP _
    obtain ⟨rfl, hx, hbd, hgv⟩ := hP
    obtain ⟨scr, harrAt, hlist, hof, hsmall⟩ := hx
    obtain ⟨hcb, hkn, -, -⟩ := State.arrayAt?_spec harrAt
    have hown : s.vm.findClass R_law = some m.cls := findClass_of_methodNamed B.named
    have hts0 : ∀ c ∈ (Jvm.Cond.code x code maxLocals ret :: tables_1), c.before #[Value.ref b] s = true := atoms_spec (ws := Jvm.Cond.code x code maxLocals ret :: tables_1) B.pre
    have hts : ∀ w ∈ lw_tbl, w.before #[Value.ref b] s = true := k2_hts_sels lw_privs (fun w hw => hts0 w (List.mem_cons_of_mem _ hw)) lw_privs_ok
    have hml : c.maxLocals = 4 := B.maxLocals_eq (hts0 _ List.mem_cons_self)
    have X₀ : Stand p l e room_1 s m #[Value.ref b] below meth c s₁ [] 0 0 := Stand.of_body B
    have hh0 : s₁.heap = s.heap := by rw [B.state]; rfl
    have hsz : scr.slots.size = xs.length := by rw [← Array.length_toList, hlist, List.length_map]
    have hval : ∀ j : Nat, j < xs.length → scr.slots[j]? = some (.int (xs.getD j 0)) := fun j hj => by
      rw [← Array.getElem?_toList, hlist]
      simp [hj]
    have hbl : b < s.heap.size := (Array.getElem?_eq_some_iff.mp hcb).1
    have hX : va_X b xs.length (fun j => xs.getD j 0) s s.heap := ⟨scr, hcb, hof, hkn, hsz, hval⟩
    have K : W p l e room_1 s m #[Value.ref b] below meth c s₁.heap [] 0 0 (lw_Z below #[Value.ref b] s) (entryFrame m ([Value.ref b] : List Value).toArray 4) := by
      rw [hh0]
      exact whole_start l hflags hbd ⟨B.exec, B.bytes, B.returns, hml, hown, hts, hX, hbl, B.notSynchronized, hgv⟩
    obtain ⟨t, a1, o, b1, b2, b3⟩ := K s₁ rfl X₀
    exact ⟨t, o, a1, b1, b2, b3⟩
theorem lw_pre_spec {args : Array Value} {s : State} (h : (Jvm.Cond.and given_1 narrow_1).before args s = true) (hr : rest_1_c.before args s = true) : ∃ (b : Addr) (xs : List Int32), lw_P b xs args s := by
  have hs := flat_of_before _ h
  have hq := flat_of_before _ hr
  have hc : (Cond.count 1).before args s = true := hs _ (by decide +kernel)
  have harr : (Cond.arrayOf (.arg 0) .int).before args s = true := hs _ (by decide +kernel)
  have hle : (Cond.le (.length (.arg 0)) (.int 3072)).before args s = true := hs _ (by decide +kernel)
  have hlen : (Cond.isInt (.length (.arg 0))).before args s = true := hq _ (by decide +kernel)
  have hall : (Cond.all (.arg 0) (.isInt (.elem (.arg 0) (.index 0)))).before args s = true := hq _ (by decide +kernel)
  obtain ⟨b, xs, hb, hx⟩ := State.ints_of_pre rfl harr hlen hall
  have hsm : xs.length < 2 ^ 31 := hx.choose_spec.2.2.2
  have hev : (Term.length (.arg 0)).eval args s none [] s = some (.int xs.length.toInt32) := hx.length_eval hb
  have hv := Cond.le_ints hev (show (Term.int 3072).eval args s none [] s = some (.int 3072) from rfl)
  have hd : xs.length.toInt32 ≤ 3072 := by
    simpa [Cond.before, Cond.holds, hv] using hle
  have hN : xs.length ≤ 3072 := (Int32.ofNat_le_ofNat hsm (by decide)).mp (show Int32.ofNat xs.length ≤ Int32.ofNat 3072 from hd)
  exact ⟨b, xs, Cond.one_arg hc (show args[0]? = some (.ref b) from hb), hx, hN, h⟩
theorem lw_comes (l : Launch) (hflags : l.flags = flags0) : Comes l x (Jvm.Cond.code x code maxLocals ret :: tables_1) room_1 (fun tb e args s => Calls_1 tb e args s ∧ rest_1 tb e args s ∧ Pre_1 tb e args s)
    (fun _ _ args s o t => lw_Q args s o t) := by
  intro p e ha hc hk s m args below hf hfit hheap happ hpre
  obtain ⟨b, xs, hP⟩ := lw_pre_spec hpre.2.2 hpre.2.1
  obtain ⟨k, o, h1, h2, h3, hQ⟩ := lw_walk l hflags b xs p e ha hc hk s m args below hf ((Spec.applies_iff_loose hf).mp happ).1 hP trivial
  exact ⟨k, o, h1, h2, h3, hQ⟩
theorem lw_frame {s t : State} {o : Outcome} {args : Array Value} (h : Framed s o t [] 600000 7302250) :
    Framed s o t (fieldLocs frame_1_writes args s ++ arrayLocs frame_1_arrays args s ++ staticLocs frame_1_statics s) 600000 7302250 := h
theorem lw_limb (L : Cond) (hL : ∀ (args : Array Value) (s t : State), L.after args s (.returned (some (.int 1))) t = true) :
    ArmFor flags0 classFile x code maxLocals ret World_1 tables_1 room_1 Calls_1 rest_1 Pre_1
      (fun tb e a s o t => postC L tb e a s o t ∧ Framed s o t (fieldLocs frame_1_writes a s ++ arrayLocs frame_1_arrays a s ++ staticLocs frame_1_statics s) 600000 7302250) := by
  intro l hflags _ _ p e ha hc hk s m args below hf hfit hheap happ hpre
  obtain ⟨k, o, h1, h2, h3, rfl, hF⟩ := lw_comes l hflags p e ha hc hk s m args below hf hfit hheap happ hpre
  exact ⟨k, _, h1, h2, h3, hL args s _, lw_frame hF⟩
theorem i_vc : Claimed_1_1 ∧ Claimed_1_2 := ⟨lw_limb limb_1_1 (fun args s t => by simp [limb_1_1, Cond.after, Cond.holds, Cond.value]), lw_limb limb_1_2 (fun args s t => Cond.after_iff.mpr (by
  first | (rw [show limb_1_2 = Cond.eq .result (.int 1) from rfl, Cond.eq_ints (x := 1) (y := 1) rfl rfl]; simp; done) | (simp [limb_1_2, Cond.value, Term.eval]; done)))⟩
