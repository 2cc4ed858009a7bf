noncomputable def f_m12_readsRank_b_455 (p0 : Int32) (i10 : Int32) (i11 : Int32) (a1 : Nat → Int32) (a22 : Nat → Int32) (a20_402 : Nat → Int32) (a21_449 : Nat → Int32) (z_453 : Int32) : Int32 × Int32 × (Nat → Int32) × (Nat → Int32) × (Nat → Int32) :=
  (f_m12_readsRank_b_462 p0 i10 i11 a1 a22 a20_402 a21_449 z_453)
noncomputable def f_m12_readsRank_b_448 (p0 : Int32) (i10 : Int32) (i11 : Int32) (a1 : Nat → Int32) (a21 : Nat → Int32) (a22 : Nat → Int32) (a20_402 : Nat → Int32) (z_406 : Int32) : Int32 × Int32 × (Nat → Int32) × (Nat → Int32) × (Nat → Int32) :=
  let a21_449 : Nat → Int32 := upd a21 p0.toNatClampNeg (0 : Int32)
  let z_453 : Int32 := z_406 + (1 : Int32)
  (f_m12_readsRank_b_455 p0 i10 i11 a1 a22 a20_402 a21_449 z_453)
noncomputable def f_m12_readsRank_b_446 (p0 : Int32) (i10 : Int32) (i11 : Int32) (a1 : Nat → Int32) (a21 : Nat → Int32) (a22 : Nat → Int32) (a20_402 : Nat → Int32) (z_406 : Int32) : Int32 × Int32 × (Nat → Int32) × (Nat → Int32) × (Nat → Int32) :=
  (f_m12_readsRank_b_448 p0 i10 i11 a1 a21 a22 a20_402 z_406)
noncomputable def f_m12_readsRank_b_444 (p0 : Int32) (i10 : Int32) (i11 : Int32) (a1 : Nat → Int32) (a21 : Nat → Int32) (a22 : Nat → Int32) (a20_402 : Nat → Int32) (z_406 : Int32) : Int32 × Int32 × (Nat → Int32) × (Nat → Int32) × (Nat → Int32) :=
  (f_m12_readsRank_b_446 p0 i10 i11 a1 a21 a22 a20_402 z_406)
noncomputable def f_m12_readsRank_b_437 (p0 : Int32) (i10 : Int32) (i11 : Int32) (a1 : Nat → Int32) (a21 : Nat → Int32) (a22 : Nat → Int32) (a20_402 : Nat → Int32) (z_406 : Int32) : Int32 × Int32 × (Nat → Int32) × (Nat → Int32) × (Nat → Int32) :=
  (f_m12_readsRank_b_444 p0 i10 i11 a1 a21 a22 a20_402 z_406)
noncomputable def f_m12_readsRank_b_430 (p0 : Int32) (i10 : Int32) (i11 : Int32) (a1 : Nat → Int32) (a21 : Nat → Int32) (a22 : Nat → Int32) (a20_402 : Nat → Int32) (z_406 : Int32) : Int32 × Int32 × (Nat → Int32) × (Nat → Int32) × (Nat → Int32) :=
  (f_m12_readsRank_b_437 p0 i10 i11 a1 a21 a22 a20_402 z_406)
noncomputable def f_m12_readsRank_b_590 (a21 : Nat → Int32) (a22 : Nat → Int32) (a20_402 : Nat → Int32) (z_406 : Int32) (i11_579 : Int32) : Int32 × Int32 × (Nat → Int32) × (Nat → Int32) × (Nat → Int32) :=
  (z_406, i11_579, a20_402, a21, a22)
noncomputable def f_m12_readsRank_b_575 (i11 : Int32) (a21 : Nat → Int32) (a22 : Nat → Int32) (a20_402 : Nat → Int32) (z_406 : Int32) : Int32 × Int32 × (Nat → Int32) × (Nat → Int32) × (Nat → Int32) :=
  let i11_579 : Int32 := (F_m12_fails (6 : Int32) z_406 i11)
  (f_m12_readsRank_b_590 a21 a22 a20_402 z_406 i11_579)
noncomputable def f_m12_readsRank_b_568 (i11 : Int32) (a21 : Nat → Int32) (a22 : Nat → Int32) (a20_402 : Nat → Int32) (z_406 : Int32) : Int32 × Int32 × (Nat → Int32) × (Nat → Int32) × (Nat → Int32) :=
  (f_m12_readsRank_b_575 i11 a21 a22 a20_402 z_406)
noncomputable def f_m12_readsRank_b_664 (i11 : Int32) (a20_402 : Nat → Int32) (a21_611 : Nat → Int32) (a22_658 : Nat → Int32) (z_662 : Int32) : Int32 × Int32 × (Nat → Int32) × (Nat → Int32) × (Nat → Int32) :=
  (z_662, i11, a20_402, a21_611, a22_658)
noncomputable def f_m12_readsRank_b_657 (p0 : Int32) (i11 : Int32) (a22 : Nat → Int32) (a20_402 : Nat → Int32) (a21_611 : Nat → Int32) (z_615 : Int32) : Int32 × Int32 × (Nat → Int32) × (Nat → Int32) × (Nat → Int32) :=
  let a22_658 : Nat → Int32 := upd a22 p0.toNatClampNeg (0 : Int32)
  let z_662 : Int32 := z_615 + (1 : Int32)
  (f_m12_readsRank_b_664 i11 a20_402 a21_611 a22_658 z_662)
noncomputable def f_m12_readsRank_b_655 (p0 : Int32) (i11 : Int32) (a22 : Nat → Int32) (a20_402 : Nat → Int32) (a21_611 : Nat → Int32) (z_615 : Int32) : Int32 × Int32 × (Nat → Int32) × (Nat → Int32) × (Nat → Int32) :=
  (f_m12_readsRank_b_657 p0 i11 a22 a20_402 a21_611 z_615)
noncomputable def f_m12_readsRank_b_653 (p0 : Int32) (i11 : Int32) (a22 : Nat → Int32) (a20_402 : Nat → Int32) (a21_611 : Nat → Int32) (z_615 : Int32) : Int32 × Int32 × (Nat → Int32) × (Nat → Int32) × (Nat → Int32) :=
  (f_m12_readsRank_b_655 p0 i11 a22 a20_402 a21_611 z_615)
noncomputable def f_m12_readsRank_b_646 (p0 : Int32) (i11 : Int32) (a22 : Nat → Int32) (a20_402 : Nat → Int32) (a21_611 : Nat → Int32) (z_615 : Int32) : Int32 × Int32 × (Nat → Int32) × (Nat → Int32) × (Nat → Int32) :=
  (f_m12_readsRank_b_653 p0 i11 a22 a20_402 a21_611 z_615)
noncomputable def f_m12_readsRank_b_639 (p0 : Int32) (i11 : Int32) (a22 : Nat → Int32) (a20_402 : Nat → Int32) (a21_611 : Nat → Int32) (z_615 : Int32) : Int32 × Int32 × (Nat → Int32) × (Nat → Int32) × (Nat → Int32) :=
  (f_m12_readsRank_b_646 p0 i11 a22 a20_402 a21_611 z_615)
noncomputable def f_m12_readsRank_b_688 (a22 : Nat → Int32) (a20_402 : Nat → Int32) (a21_611 : Nat → Int32) (z_615 : Int32) (i11_677 : Int32) : Int32 × Int32 × (Nat → Int32) × (Nat → Int32) × (Nat → Int32) :=
  (z_615, i11_677, a20_402, a21_611, a22)
noncomputable def f_m12_readsRank_b_673 (i11 : Int32) (a22 : Nat → Int32) (a20_402 : Nat → Int32) (a21_611 : Nat → Int32) (z_615 : Int32) : Int32 × Int32 × (Nat → Int32) × (Nat → Int32) × (Nat → Int32) :=
  let i11_677 : Int32 := (F_m12_fails (6 : Int32) z_615 i11)
  (f_m12_readsRank_b_688 a22 a20_402 a21_611 z_615 i11_677)
noncomputable def f_m12_readsRank_b_666 (i11 : Int32) (a22 : Nat → Int32) (a20_402 : Nat → Int32) (a21_611 : Nat → Int32) (z_615 : Int32) : Int32 × Int32 × (Nat → Int32) × (Nat → Int32) × (Nat → Int32) :=
  (f_m12_readsRank_b_673 i11 a22 a20_402 a21_611 z_615)
noncomputable def f_m12_readsRank_b_712 (a22 : Nat → Int32) (a20_402 : Nat → Int32) (a21_611 : Nat → Int32) (z_615 : Int32) (i11_701 : Int32) : Int32 × Int32 × (Nat → Int32) × (Nat → Int32) × (Nat → Int32) :=
  (z_615, i11_701, a20_402, a21_611, a22)
noncomputable def f_m12_readsRank_b_697 (i11 : Int32) (a22 : Nat → Int32) (a20_402 : Nat → Int32) (a21_611 : Nat → Int32) (z_615 : Int32) : Int32 × Int32 × (Nat → Int32) × (Nat → Int32) × (Nat → Int32) :=
  let i11_701 : Int32 := (F_m12_fails (6 : Int32) z_615 i11)
  (f_m12_readsRank_b_712 a22 a20_402 a21_611 z_615 i11_701)
noncomputable def f_m12_readsRank_b_690 (i11 : Int32) (a22 : Nat → Int32) (a20_402 : Nat → Int32) (a21_611 : Nat → Int32) (z_615 : Int32) : Int32 × Int32 × (Nat → Int32) × (Nat → Int32) × (Nat → Int32) :=
  (f_m12_readsRank_b_697 i11 a22 a20_402 a21_611 z_615)
noncomputable def f_m12_readsRank_b_636 (p0 : Int32) (i11 : Int32) (a22 : Nat → Int32) (a20_402 : Nat → Int32) (a21_611 : Nat → Int32) (z_615 : Int32) (z_630 : Int32) : Int32 × Int32 × (Nat → Int32) × (Nat → Int32) × (Nat → Int32) :=
  if z_630.toInt = 0 then (f_m12_readsRank_b_639 p0 i11 a22 a20_402 a21_611 z_615) else if z_630.toInt = 1 then (f_m12_readsRank_b_666 i11 a22 a20_402 a21_611 z_615) else (f_m12_readsRank_b_690 i11 a22 a20_402 a21_611 z_615)
noncomputable def f_m12_readsRank_b_728 (a22 : Nat → Int32) (a20_402 : Nat → Int32) (a21_611 : Nat → Int32) (z_615 : Int32) (i11_717 : Int32) : Int32 × Int32 × (Nat → Int32) × (Nat → Int32) × (Nat → Int32) :=
  (z_615, i11_717, a20_402, a21_611, a22)
noncomputable def f_m12_readsRank_b_713 (i11 : Int32) (a22 : Nat → Int32) (a20_402 : Nat → Int32) (a21_611 : Nat → Int32) (z_615 : Int32) : Int32 × Int32 × (Nat → Int32) × (Nat → Int32) × (Nat → Int32) :=
  let i11_717 : Int32 := (F_m12_fails (1 : Int32) z_615 i11)
  (f_m12_readsRank_b_728 a22 a20_402 a21_611 z_615 i11_717)
noncomputable def f_m12_readsRank_b_624 (p0 : Int32) (i10 : Int32) (i11 : Int32) (a1 : Nat → Int32) (a22 : Nat → Int32) (a20_402 : Nat → Int32) (a21_611 : Nat → Int32) (z_615 : Int32) : Int32 × Int32 × (Nat → Int32) × (Nat → Int32) × (Nat → Int32) :=
  let v_625 : Int32 := (F_m12_here z_615 i10 a1)
  let z_630 : Int32 := v_625 - (48 : Int32)
  let v_631 : Int32 := (F_m12_lies z_630 (0 : Int32) (2 : Int32))
  if v_631.toInt ≠ 0 then (f_m12_readsRank_b_636 p0 i11 a22 a20_402 a21_611 z_615 z_630) else (f_m12_readsRank_b_713 i11 a22 a20_402 a21_611 z_615)
noncomputable def f_m12_readsRank_b_617 (p0 : Int32) (i10 : Int32) (i11 : Int32) (a1 : Nat → Int32) (a22 : Nat → Int32) (a20_402 : Nat → Int32) (a21_611 : Nat → Int32) (z_615 : Int32) : Int32 × Int32 × (Nat → Int32) × (Nat → Int32) × (Nat → Int32) :=
  (f_m12_readsRank_b_624 p0 i10 i11 a1 a22 a20_402 a21_611 z_615)
noncomputable def f_m12_readsRank_b_610 (p0 : Int32) (i10 : Int32) (i11 : Int32) (a1 : Nat → Int32) (a21 : Nat → Int32) (a22 : Nat → Int32) (a20_402 : Nat → Int32) (z_406 : Int32) : Int32 × Int32 × (Nat → Int32) × (Nat → Int32) × (Nat → Int32) :=
  let a21_611 : Nat → Int32 := upd a21 p0.toNatClampNeg (2 : Int32)
  let z_615 : Int32 := z_406 + (1 : Int32)
  (f_m12_readsRank_b_617 p0 i10 i11 a1 a22 a20_402 a21_611 z_615)
noncomputable def f_m12_readsRank_b_608 (p0 : Int32) (i10 : Int32) (i11 : Int32) (a1 : Nat → Int32) (a21 : Nat → Int32) (a22 : Nat → Int32) (a20_402 : Nat → Int32) (z_406 : Int32) : Int32 × Int32 × (Nat → Int32) × (Nat → Int32) × (Nat → Int32) :=
  (f_m12_readsRank_b_610 p0 i10 i11 a1 a21 a22 a20_402 z_406)
noncomputable def f_m12_readsRank_b_606 (p0 : Int32) (i10 : Int32) (i11 : Int32) (a1 : Nat → Int32) (a21 : Nat → Int32) (a22 : Nat → Int32) (a20_402 : Nat → Int32) (z_406 : Int32) : Int32 × Int32 × (Nat → Int32) × (Nat → Int32) × (Nat → Int32) :=
  (f_m12_readsRank_b_608 p0 i10 i11 a1 a21 a22 a20_402 z_406)
noncomputable def f_m12_readsRank_b_599 (p0 : Int32) (i10 : Int32) (i11 : Int32) (a1 : Nat → Int32) (a21 : Nat → Int32) (a22 : Nat → Int32) (a20_402 : Nat → Int32) (z_406 : Int32) : Int32 × Int32 × (Nat → Int32) × (Nat → Int32) × (Nat → Int32) :=
  (f_m12_readsRank_b_606 p0 i10 i11 a1 a21 a22 a20_402 z_406)
noncomputable def f_m12_readsRank_b_592 (p0 : Int32) (i10 : Int32) (i11 : Int32) (a1 : Nat → Int32) (a21 : Nat → Int32) (a22 : Nat → Int32) (a20_402 : Nat → Int32) (z_406 : Int32) : Int32 × Int32 × (Nat → Int32) × (Nat → Int32) × (Nat → Int32) :=
  (f_m12_readsRank_b_599 p0 i10 i11 a1 a21 a22 a20_402 z_406)
noncomputable def f_m12_readsRank_b_427 (p0 : Int32) (i10 : Int32) (i11 : Int32) (a1 : Nat → Int32) (a21 : Nat → Int32) (a22 : Nat → Int32) (a20_402 : Nat → Int32) (z_406 : Int32) (z_421 : Int32) : Int32 × Int32 × (Nat → Int32) × (Nat → Int32) × (Nat → Int32) :=
  if z_421.toInt = 0 then (f_m12_readsRank_b_430 p0 i10 i11 a1 a21 a22 a20_402 z_406) else if z_421.toInt = 1 then (f_m12_readsRank_b_568 i11 a21 a22 a20_402 z_406) else (f_m12_readsRank_b_592 p0 i10 i11 a1 a21 a22 a20_402 z_406)
noncomputable def f_m12_readsRank_b_744 (a21 : Nat → Int32) (a22 : Nat → Int32) (a20_402 : Nat → Int32) (z_406 : Int32) (i11_733 : Int32) : Int32 × Int32 × (Nat → Int32) × (Nat → Int32) × (Nat → Int32) :=
  (z_406, i11_733, a20_402, a21, a22)
noncomputable def f_m12_readsRank_b_729 (i11 : Int32) (a21 : Nat → Int32) (a22 : Nat → Int32) (a20_402 : Nat → Int32) (z_406 : Int32) : Int32 × Int32 × (Nat → Int32) × (Nat → Int32) × (Nat → Int32) :=
  let i11_733 : Int32 := (F_m12_fails (1 : Int32) z_406 i11)
  (f_m12_readsRank_b_744 a21 a22 a20_402 z_406 i11_733)
noncomputable def f_m12_readsRank_b_415 (p0 : Int32) (i10 : Int32) (i11 : Int32) (a1 : Nat → Int32) (a21 : Nat → Int32) (a22 : Nat → Int32) (a20_402 : Nat → Int32) (z_406 : Int32) : Int32 × Int32 × (Nat → Int32) × (Nat → Int32) × (Nat → Int32) :=
  let v_416 : Int32 := (F_m12_here z_406 i10 a1)
  let z_421 : Int32 := v_416 - (48 : Int32)
  let v_422 : Int32 := (F_m12_lies z_421 (0 : Int32) (2 : Int32))
  if v_422.toInt ≠ 0 then (f_m12_readsRank_b_427 p0 i10 i11 a1 a21 a22 a20_402 z_406 z_421) else (f_m12_readsRank_b_729 i11 a21 a22 a20_402 z_406)
noncomputable def f_m12_readsRank_b_408 (p0 : Int32) (i10 : Int32) (i11 : Int32) (a1 : Nat → Int32) (a21 : Nat → Int32) (a22 : Nat → Int32) (a20_402 : Nat → Int32) (z_406 : Int32) : Int32 × Int32 × (Nat → Int32) × (Nat → Int32) × (Nat → Int32) :=
  (f_m12_readsRank_b_415 p0 i10 i11 a1 a21 a22 a20_402 z_406)
noncomputable def f_m12_readsRank_b_401 (p0 : Int32) (i9 : Int32) (i10 : Int32) (i11 : Int32) (a1 : Nat → Int32) (a20 : Nat → Int32) (a21 : Nat → Int32) (a22 : Nat → Int32) : Int32 × Int32 × (Nat → Int32) × (Nat → Int32) × (Nat → Int32) :=
  let a20_402 : Nat → Int32 := upd a20 p0.toNatClampNeg (1 : Int32)
  let z_406 : Int32 := i9 + (1 : Int32)
  (f_m12_readsRank_b_408 p0 i10 i11 a1 a21 a22 a20_402 z_406)
noncomputable def f_m12_readsRank_b_399 (p0 : Int32) (i9 : Int32) (i10 : Int32) (i11 : Int32) (a1 : Nat → Int32) (a20 : Nat → Int32) (a21 : Nat → Int32) (a22 : Nat → Int32) : Int32 × Int32 × (Nat → Int32) × (Nat → Int32) × (Nat → Int32) :=
  (f_m12_readsRank_b_401 p0 i9 i10 i11 a1 a20 a21 a22)
noncomputable def f_m12_readsRank_b_392 (p0 : Int32) (i9 : Int32) (i10 : Int32) (i11 : Int32) (a1 : Nat → Int32) (a20 : Nat → Int32) (a21 : Nat → Int32) (a22 : Nat → Int32) : Int32 × Int32 × (Nat → Int32) × (Nat → Int32) × (Nat → Int32) :=
  (f_m12_readsRank_b_399 p0 i9 i10 i11 a1 a20 a21 a22)
noncomputable def f_m12_readsRank_b_385 (p0 : Int32) (i9 : Int32) (i10 : Int32) (i11 : Int32) (a1 : Nat → Int32) (a20 : Nat → Int32) (a21 : Nat → Int32) (a22 : Nat → Int32) : Int32 × Int32 × (Nat → Int32) × (Nat → Int32) × (Nat → Int32) :=
  (f_m12_readsRank_b_392 p0 i9 i10 i11 a1 a20 a21 a22)
noncomputable def f_m12_readsRank_b_860 (a22 : Nat → Int32) (a20_763 : Nat → Int32) (a21_810 : Nat → Int32) (z_814 : Int32) (i11_849 : Int32) : Int32 × Int32 × (Nat → Int32) × (Nat → Int32) × (Nat → Int32) :=
  (z_814, i11_849, a20_763, a21_810, a22)
noncomputable def f_m12_readsRank_b_845 (i11 : Int32) (a22 : Nat → Int32) (a20_763 : Nat → Int32) (a21_810 : Nat → Int32) (z_814 : Int32) : Int32 × Int32 × (Nat → Int32) × (Nat → Int32) × (Nat → Int32) :=
  let i11_849 : Int32 := (F_m12_fails (6 : Int32) z_814 i11)
  (f_m12_readsRank_b_860 a22 a20_763 a21_810 z_814 i11_849)
noncomputable def f_m12_readsRank_b_838 (i11 : Int32) (a22 : Nat → Int32) (a20_763 : Nat → Int32) (a21_810 : Nat → Int32) (z_814 : Int32) : Int32 × Int32 × (Nat → Int32) × (Nat → Int32) × (Nat → Int32) :=
  (f_m12_readsRank_b_845 i11 a22 a20_763 a21_810 z_814)
noncomputable def f_m12_readsRank_b_887 (i11 : Int32) (a20_763 : Nat → Int32) (a21_810 : Nat → Int32) (a22_881 : Nat → Int32) (z_885 : Int32) : Int32 × Int32 × (Nat → Int32) × (Nat → Int32) × (Nat → Int32) :=
  (z_885, i11, a20_763, a21_810, a22_881)
noncomputable def f_m12_readsRank_b_880 (p0 : Int32) (i11 : Int32) (a22 : Nat → Int32) (a20_763 : Nat → Int32) (a21_810 : Nat → Int32) (z_814 : Int32) : Int32 × Int32 × (Nat → Int32) × (Nat → Int32) × (Nat → Int32) :=
  let a22_881 : Nat → Int32 := upd a22 p0.toNatClampNeg (1 : Int32)
  let z_885 : Int32 := z_814 + (1 : Int32)
  (f_m12_readsRank_b_887 i11 a20_763 a21_810 a22_881 z_885)
noncomputable def f_m12_readsRank_b_878 (p0 : Int32) (i11 : Int32) (a22 : Nat → Int32) (a20_763 : Nat → Int32) (a21_810 : Nat → Int32) (z_814 : Int32) : Int32 × Int32 × (Nat → Int32) × (Nat → Int32) × (Nat → Int32) :=
  (f_m12_readsRank_b_880 p0 i11 a22 a20_763 a21_810 z_814)
noncomputable def f_m12_readsRank_b_876 (p0 : Int32) (i11 : Int32) (a22 : Nat → Int32) (a20_763 : Nat → Int32) (a21_810 : Nat → Int32) (z_814 : Int32) : Int32 × Int32 × (Nat → Int32) × (Nat → Int32) × (Nat → Int32) :=
  (f_m12_readsRank_b_878 p0 i11 a22 a20_763 a21_810 z_814)
noncomputable def f_m12_readsRank_b_869 (p0 : Int32) (i11 : Int32) (a22 : Nat → Int32) (a20_763 : Nat → Int32) (a21_810 : Nat → Int32) (z_814 : Int32) : Int32 × Int32 × (Nat → Int32) × (Nat → Int32) × (Nat → Int32) :=
  (f_m12_readsRank_b_876 p0 i11 a22 a20_763 a21_810 z_814)
noncomputable def f_m12_readsRank_b_862 (p0 : Int32) (i11 : Int32) (a22 : Nat → Int32) (a20_763 : Nat → Int32) (a21_810 : Nat → Int32) (z_814 : Int32) : Int32 × Int32 × (Nat → Int32) × (Nat → Int32) × (Nat → Int32) :=
  (f_m12_readsRank_b_869 p0 i11 a22 a20_763 a21_810 z_814)
noncomputable def f_m12_readsRank_b_911 (a22 : Nat → Int32) (a20_763 : Nat → Int32) (a21_810 : Nat → Int32) (z_814 : Int32) (i11_900 : Int32) : Int32 × Int32 × (Nat → Int32) × (Nat → Int32) × (Nat → Int32) :=
  (z_814, i11_900, a20_763, a21_810, a22)
noncomputable def f_m12_readsRank_b_896 (i11 : Int32) (a22 : Nat → Int32) (a20_763 : Nat → Int32) (a21_810 : Nat → Int32) (z_814 : Int32) : Int32 × Int32 × (Nat → Int32) × (Nat → Int32) × (Nat → Int32) :=
  let i11_900 : Int32 := (F_m12_fails (6 : Int32) z_814 i11)
  (f_m12_readsRank_b_911 a22 a20_763 a21_810 z_814 i11_900)
noncomputable def f_m12_readsRank_b_889 (i11 : Int32) (a22 : Nat → Int32) (a20_763 : Nat → Int32) (a21_810 : Nat → Int32) (z_814 : Int32) : Int32 × Int32 × (Nat → Int32) × (Nat → Int32) × (Nat → Int32) :=
  (f_m12_readsRank_b_896 i11 a22 a20_763 a21_810 z_814)
noncomputable def f_m12_readsRank_b_835 (p0 : Int32) (i11 : Int32) (a22 : Nat → Int32) (a20_763 : Nat → Int32) (a21_810 : Nat → Int32) (z_814 : Int32) (z_829 : Int32) : Int32 × Int32 × (Nat → Int32) × (Nat → Int32) × (Nat → Int32) :=
  if z_829.toInt = 0 then (f_m12_readsRank_b_838 i11 a22 a20_763 a21_810 z_814) else if z_829.toInt = 1 then (f_m12_readsRank_b_862 p0 i11 a22 a20_763 a21_810 z_814) else (f_m12_readsRank_b_889 i11 a22 a20_763 a21_810 z_814)
noncomputable def f_m12_readsRank_b_927 (a22 : Nat → Int32) (a20_763 : Nat → Int32) (a21_810 : Nat → Int32) (z_814 : Int32) (i11_916 : Int32) : Int32 × Int32 × (Nat → Int32) × (Nat → Int32) × (Nat → Int32) :=
  (z_814, i11_916, a20_763, a21_810, a22)
noncomputable def f_m12_readsRank_b_912 (i11 : Int32) (a22 : Nat → Int32) (a20_763 : Nat → Int32) (a21_810 : Nat → Int32) (z_814 : Int32) : Int32 × Int32 × (Nat → Int32) × (Nat → Int32) × (Nat → Int32) :=
  let i11_916 : Int32 := (F_m12_fails (1 : Int32) z_814 i11)
  (f_m12_readsRank_b_927 a22 a20_763 a21_810 z_814 i11_916)
noncomputable def f_m12_readsRank_b_823 (p0 : Int32) (i10 : Int32) (i11 : Int32) (a1 : Nat → Int32) (a22 : Nat → Int32) (a20_763 : Nat → Int32) (a21_810 : Nat → Int32) (z_814 : Int32) : Int32 × Int32 × (Nat → Int32) × (Nat → Int32) × (Nat → Int32) :=
  let v_824 : Int32 := (F_m12_here z_814 i10 a1)
  let z_829 : Int32 := v_824 - (48 : Int32)
  let v_830 : Int32 := (F_m12_lies z_829 (0 : Int32) (2 : Int32))
  if v_830.toInt ≠ 0 then (f_m12_readsRank_b_835 p0 i11 a22 a20_763 a21_810 z_814 z_829) else (f_m12_readsRank_b_912 i11 a22 a20_763 a21_810 z_814)
noncomputable def f_m12_readsRank_b_816 (p0 : Int32) (i10 : Int32) (i11 : Int32) (a1 : Nat → Int32) (a22 : Nat → Int32) (a20_763 : Nat → Int32) (a21_810 : Nat → Int32) (z_814 : Int32) : Int32 × Int32 × (Nat → Int32) × (Nat → Int32) × (Nat → Int32) :=
  (f_m12_readsRank_b_823 p0 i10 i11 a1 a22 a20_763 a21_810 z_814)
noncomputable def f_m12_readsRank_b_809 (p0 : Int32) (i10 : Int32) (i11 : Int32) (a1 : Nat → Int32) (a21 : Nat → Int32) (a22 : Nat → Int32) (a20_763 : Nat → Int32) (z_767 : Int32) : Int32 × Int32 × (Nat → Int32) × (Nat → Int32) × (Nat → Int32) :=
  let a21_810 : Nat → Int32 := upd a21 p0.toNatClampNeg (0 : Int32)
  let z_814 : Int32 := z_767 + (1 : Int32)
  (f_m12_readsRank_b_816 p0 i10 i11 a1 a22 a20_763 a21_810 z_814)
noncomputable def f_m12_readsRank_b_807 (p0 : Int32) (i10 : Int32) (i11 : Int32) (a1 : Nat → Int32) (a21 : Nat → Int32) (a22 : Nat → Int32) (a20_763 : Nat → Int32) (z_767 : Int32) : Int32 × Int32 × (Nat → Int32) × (Nat → Int32) × (Nat → Int32) :=
  (f_m12_readsRank_b_809 p0 i10 i11 a1 a21 a22 a20_763 z_767)
noncomputable def f_m12_readsRank_b_805 (p0 : Int32) (i10 : Int32) (i11 : Int32) (a1 : Nat → Int32) (a21 : Nat → Int32) (a22 : Nat → Int32) (a20_763 : Nat → Int32) (z_767 : Int32) : Int32 × Int32 × (Nat → Int32) × (Nat → Int32) × (Nat → Int32) :=
  (f_m12_readsRank_b_807 p0 i10 i11 a1 a21 a22 a20_763 z_767)
noncomputable def f_m12_readsRank_b_798 (p0 : Int32) (i10 : Int32) (i11 : Int32) (a1 : Nat → Int32) (a21 : Nat → Int32) (a22 : Nat → Int32) (a20_763 : Nat → Int32) (z_767 : Int32) : Int32 × Int32 × (Nat → Int32) × (Nat → Int32) × (Nat → Int32) :=
  (f_m12_readsRank_b_805 p0 i10 i11 a1 a21 a22 a20_763 z_767)
noncomputable def f_m12_readsRank_b_791 (p0 : Int32) (i10 : Int32) (i11 : Int32) (a1 : Nat → Int32) (a21 : Nat → Int32) (a22 : Nat → Int32) (a20_763 : Nat → Int32) (z_767 : Int32) : Int32 × Int32 × (Nat → Int32) × (Nat → Int32) × (Nat → Int32) :=
  (f_m12_readsRank_b_798 p0 i10 i11 a1 a21 a22 a20_763 z_767)
noncomputable def f_m12_readsRank_b_1001 (i11 : Int32) (a20_763 : Nat → Int32) (a21_948 : Nat → Int32) (a22_995 : Nat → Int32) (z_999 : Int32) : Int32 × Int32 × (Nat → Int32) × (Nat → Int32) × (Nat → Int32) :=
  (z_999, i11, a20_763, a21_948, a22_995)
noncomputable def f_m12_readsRank_b_994 (p0 : Int32) (i11 : Int32) (a22 : Nat → Int32) (a20_763 : Nat → Int32) (a21_948 : Nat → Int32) (z_952 : Int32) : Int32 × Int32 × (Nat → Int32) × (Nat → Int32) × (Nat → Int32) :=
  let a22_995 : Nat → Int32 := upd a22 p0.toNatClampNeg (0 : Int32)
  let z_999 : Int32 := z_952 + (1 : Int32)
  (f_m12_readsRank_b_1001 i11 a20_763 a21_948 a22_995 z_999)
noncomputable def f_m12_readsRank_b_992 (p0 : Int32) (i11 : Int32) (a22 : Nat → Int32) (a20_763 : Nat → Int32) (a21_948 : Nat → Int32) (z_952 : Int32) : Int32 × Int32 × (Nat → Int32) × (Nat → Int32) × (Nat → Int32) :=
  (f_m12_readsRank_b_994 p0 i11 a22 a20_763 a21_948 z_952)
noncomputable def f_m12_readsRank_b_990 (p0 : Int32) (i11 : Int32) (a22 : Nat → Int32) (a20_763 : Nat → Int32) (a21_948 : Nat → Int32) (z_952 : Int32) : Int32 × Int32 × (Nat → Int32) × (Nat → Int32) × (Nat → Int32) :=
  (f_m12_readsRank_b_992 p0 i11 a22 a20_763 a21_948 z_952)
noncomputable def f_m12_readsRank_b_983 (p0 : Int32) (i11 : Int32) (a22 : Nat → Int32) (a20_763 : Nat → Int32) (a21_948 : Nat → Int32) (z_952 : Int32) : Int32 × Int32 × (Nat → Int32) × (Nat → Int32) × (Nat → Int32) :=
  (f_m12_readsRank_b_990 p0 i11 a22 a20_763 a21_948 z_952)
noncomputable def f_m12_readsRank_b_976 (p0 : Int32) (i11 : Int32) (a22 : Nat → Int32) (a20_763 : Nat → Int32) (a21_948 : Nat → Int32) (z_952 : Int32) : Int32 × Int32 × (Nat → Int32) × (Nat → Int32) × (Nat → Int32) :=
  (f_m12_readsRank_b_983 p0 i11 a22 a20_763 a21_948 z_952)
noncomputable def f_m12_readsRank_b_1025 (a22 : Nat → Int32) (a20_763 : Nat → Int32) (a21_948 : Nat → Int32) (z_952 : Int32) (i11_1014 : Int32) : Int32 × Int32 × (Nat → Int32) × (Nat → Int32) × (Nat → Int32) :=
  (z_952, i11_1014, a20_763, a21_948, a22)
noncomputable def f_m12_readsRank_b_1010 (i11 : Int32) (a22 : Nat → Int32) (a20_763 : Nat → Int32) (a21_948 : Nat → Int32) (z_952 : Int32) : Int32 × Int32 × (Nat → Int32) × (Nat → Int32) × (Nat → Int32) :=
  let i11_1014 : Int32 := (F_m12_fails (6 : Int32) z_952 i11)
  (f_m12_readsRank_b_1025 a22 a20_763 a21_948 z_952 i11_1014)
noncomputable def f_m12_readsRank_b_1003 (i11 : Int32) (a22 : Nat → Int32) (a20_763 : Nat → Int32) (a21_948 : Nat → Int32) (z_952 : Int32) : Int32 × Int32 × (Nat → Int32) × (Nat → Int32) × (Nat → Int32) :=
  (f_m12_readsRank_b_1010 i11 a22 a20_763 a21_948 z_952)
noncomputable def f_m12_readsRank_b_1049 (a22 : Nat → Int32) (a20_763 : Nat → Int32) (a21_948 : Nat → Int32) (z_952 : Int32) (i11_1038 : Int32) : Int32 × Int32 × (Nat → Int32) × (Nat → Int32) × (Nat → Int32) :=
  (z_952, i11_1038, a20_763, a21_948, a22)
noncomputable def f_m12_readsRank_b_1034 (i11 : Int32) (a22 : Nat → Int32) (a20_763 : Nat → Int32) (a21_948 : Nat → Int32) (z_952 : Int32) : Int32 × Int32 × (Nat → Int32) × (Nat → Int32) × (Nat → Int32) :=
  let i11_1038 : Int32 := (F_m12_fails (6 : Int32) z_952 i11)
  (f_m12_readsRank_b_1049 a22 a20_763 a21_948 z_952 i11_1038)
noncomputable def f_m12_readsRank_b_1027 (i11 : Int32) (a22 : Nat → Int32) (a20_763 : Nat → Int32) (a21_948 : Nat → Int32) (z_952 : Int32) : Int32 × Int32 × (Nat → Int32) × (Nat → Int32) × (Nat → Int32) :=
  (f_m12_readsRank_b_1034 i11 a22 a20_763 a21_948 z_952)
noncomputable def f_m12_readsRank_b_973 (p0 : Int32) (i11 : Int32) (a22 : Nat → Int32) (a20_763 : Nat → Int32) (a21_948 : Nat → Int32) (z_952 : Int32) (z_967 : Int32) : Int32 × Int32 × (Nat → Int32) × (Nat → Int32) × (Nat → Int32) :=
  if z_967.toInt = 0 then (f_m12_readsRank_b_976 p0 i11 a22 a20_763 a21_948 z_952) else if z_967.toInt = 1 then (f_m12_readsRank_b_1003 i11 a22 a20_763 a21_948 z_952) else (f_m12_readsRank_b_1027 i11 a22 a20_763 a21_948 z_952)
noncomputable def f_m12_readsRank_b_1065 (a22 : Nat → Int32) (a20_763 : Nat → Int32) (a21_948 : Nat → Int32) (z_952 : Int32) (i11_1054 : Int32) : Int32 × Int32 × (Nat → Int32) × (Nat → Int32) × (Nat → Int32) :=
  (z_952, i11_1054, a20_763, a21_948, a22)
noncomputable def f_m12_readsRank_b_1050 (i11 : Int32) (a22 : Nat → Int32) (a20_763 : Nat → Int32) (a21_948 : Nat → Int32) (z_952 : Int32) : Int32 × Int32 × (Nat → Int32) × (Nat → Int32) × (Nat → Int32) :=
  let i11_1054 : Int32 := (F_m12_fails (1 : Int32) z_952 i11)
  (f_m12_readsRank_b_1065 a22 a20_763 a21_948 z_952 i11_1054)
noncomputable def f_m12_readsRank_b_961 (p0 : Int32) (i10 : Int32) (i11 : Int32) (a1 : Nat → Int32) (a22 : Nat → Int32) (a20_763 : Nat → Int32) (a21_948 : Nat → Int32) (z_952 : Int32) : Int32 × Int32 × (Nat → Int32) × (Nat → Int32) × (Nat → Int32) :=
  let v_962 : Int32 := (F_m12_here z_952 i10 a1)
  let z_967 : Int32 := v_962 - (48 : Int32)
  let v_968 : Int32 := (F_m12_lies z_967 (0 : Int32) (2 : Int32))
  if v_968.toInt ≠ 0 then (f_m12_readsRank_b_973 p0 i11 a22 a20_763 a21_948 z_952 z_967) else (f_m12_readsRank_b_1050 i11 a22 a20_763 a21_948 z_952)
noncomputable def f_m12_readsRank_b_954 (p0 : Int32) (i10 : Int32) (i11 : Int32) (a1 : Nat → Int32) (a22 : Nat → Int32) (a20_763 : Nat → Int32) (a21_948 : Nat → Int32) (z_952 : Int32) : Int32 × Int32 × (Nat → Int32) × (Nat → Int32) × (Nat → Int32) :=
  (f_m12_readsRank_b_961 p0 i10 i11 a1 a22 a20_763 a21_948 z_952)
noncomputable def f_m12_readsRank_b_947 (p0 : Int32) (i10 : Int32) (i11 : Int32) (a1 : Nat → Int32) (a21 : Nat → Int32) (a22 : Nat → Int32) (a20_763 : Nat → Int32) (z_767 : Int32) : Int32 × Int32 × (Nat → Int32) × (Nat → Int32) × (Nat → Int32) :=
  let a21_948 : Nat → Int32 := upd a21 p0.toNatClampNeg (1 : Int32)
  let z_952 : Int32 := z_767 + (1 : Int32)
  (f_m12_readsRank_b_954 p0 i10 i11 a1 a22 a20_763 a21_948 z_952)
noncomputable def f_m12_readsRank_b_945 (p0 : Int32) (i10 : Int32) (i11 : Int32) (a1 : Nat → Int32) (a21 : Nat → Int32) (a22 : Nat → Int32) (a20_763 : Nat → Int32) (z_767 : Int32) : Int32 × Int32 × (Nat → Int32) × (Nat → Int32) × (Nat → Int32) :=
  (f_m12_readsRank_b_947 p0 i10 i11 a1 a21 a22 a20_763 z_767)
noncomputable def f_m12_readsRank_b_943 (p0 : Int32) (i10 : Int32) (i11 : Int32) (a1 : Nat → Int32) (a21 : Nat → Int32) (a22 : Nat → Int32) (a20_763 : Nat → Int32) (z_767 : Int32) : Int32 × Int32 × (Nat → Int32) × (Nat → Int32) × (Nat → Int32) :=
  (f_m12_readsRank_b_945 p0 i10 i11 a1 a21 a22 a20_763 z_767)
noncomputable def f_m12_readsRank_b_936 (p0 : Int32) (i10 : Int32) (i11 : Int32) (a1 : Nat → Int32) (a21 : Nat → Int32) (a22 : Nat → Int32) (a20_763 : Nat → Int32) (z_767 : Int32) : Int32 × Int32 × (Nat → Int32) × (Nat → Int32) × (Nat → Int32) :=
  (f_m12_readsRank_b_943 p0 i10 i11 a1 a21 a22 a20_763 z_767)
