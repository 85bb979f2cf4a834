set_option maxHeartbeats 4000000 in
set_option maxRecDepth 100000 in
theorem zc_photo {p : Program} {e : Env} {s : State} {m : MethodId} {below : List Frame} {meth : Method} {c : Code} {Q : State → Prop} {b L i : Nat} {xs : Nat → Int32} (l : Launch) (g : xG) (S : CallFix p m c cL_law 4 s #[Value.ref b] wsL_law RL) (hJ : xJ (xad g)) (hK : xK g s) (hAd : ∀ k, k < 75 → zA s (xad g k)) (hX : va_X b L xs s s.heap) (hbl : b < s.heap.size) (hL : L ≤ 3584) (hi : i + 7 ≤ L) {z : xS} {E : Nat → va_E} {H : Heap} {locs : List Loc} (hz : sX g E z) (hm : sM g E z) (hv : vS z) (hP : xP g E H) (hS : va_S (zA s) s.heap H locs) {ls : Array Slot} (hl : lv_has ls 4 [(0, .ref b), (1, .ref (xad g 0)), (2, .ref (xad g 65)), (3, .int (nI i))]) (kk : ∀ (z1 : xS) (E1 : Nat → va_E) (H1 : Heap) (locs1 : List Loc), sX g E1 z1 → sM g E1 z1 → vS z1 → xP g E1 H1 → va_S (zA s) s.heap H1 locs1 → W p l e room_1 s m #[Value.ref b] below meth c H1 locs1 600000 7302250 Q (F0 m 848 ls [])) : W p l e room_1 s m #[Value.ref b] below meth c H locs 600000 7302250 Q (F0 m 458 ls []) := by
  refine lv_aload_n S.1 S.2.1 dL_law_458 rfl (lv_at hl 1 rfl) ?_
  refine z_a1 (n := 1) S hX hbl hS hL hi hl (by decide) dL_law_459 dL_law_460 dL_law_461 (by decide) dL_law_462 dL_law_463 ?_
  refine z_a1 (n := 2) S hX hbl hS hL hi hl (by decide) dL_law_464 dL_law_465 dL_law_466 (by decide) dL_law_467 dL_law_468 ?_
  refine z_qi (va_runV (As := [.int (xs (i + 1)), .int (xs (i + 2))]) (rest := []) S (c_X6_photo l g hJ E hz hv (xs (i + 1)) (xs (i + 2))) (cwV 2 S.2.2.2.2 gL_law_X6_photo rfl rfl rfl (by decide +kernel) ⟨Nat.le_of_ble_eq_true rfl, Nat.le_of_ble_eq_true rfl⟩) (x_preV hK hP hz.at0 (by decide) rfl) rfl rfl hl.1 rfl (lv_room (Nat.le_of_ble_eq_true rfl)) dL_law_469 ⟨Nat.le_of_ble_eq_true rfl, Nat.le_of_ble_eq_true rfl⟩) hAd hS (fun r1 E1 H locs hq hP hS => ?_)
  obtain ⟨hq1, hz1, hf1⟩ := hq
  have hm1 := hm.keep hf1
  obtain ⟨fs, hm0⟩ := hm1.at0
  refine lv_aload_n S.1 S.2.1 dL_law_472 rfl (lv_at hl 2 rfl) ?_
  refine z_a1 (n := 1) S hX hbl hS hL hi hl (by decide) dL_law_473 dL_law_474 dL_law_475 (by decide) dL_law_476 dL_law_477 ?_
  refine z_a1 (n := 2) S hX hbl hS hL hi hl (by decide) dL_law_478 dL_law_479 dL_law_480 (by decide) dL_law_481 dL_law_482 ?_
  refine z_qi (va_runV (As := [.int (xs (i + 1)), .int (xs (i + 2))]) (rest := [.int r1]) S (c_X7_photo l g hJ E1 hm1 hv (xs (i + 1)) (xs (i + 2))) (cwV 2 S.2.2.2.2 gL_law_X7_photo rfl rfl rfl (by decide +kernel) ⟨Nat.le_of_ble_eq_true rfl, Nat.le_of_ble_eq_true rfl⟩) (x_preV hK hP hm0 (by decide) rfl) rfl rfl hl.1 rfl (lv_room (Nat.le_of_ble_eq_true rfl)) dL_law_483 ⟨Nat.le_of_ble_eq_true rfl, Nat.le_of_ble_eq_true rfl⟩) hAd hS (fun r2 E2 H locs hq hP hS => ?_)
  obtain ⟨hq2, hm2, hf2⟩ := hq
  have hz2 := hz1.keep hf2
  have er := sp_photo.det hv hq1 hq2
  exact lv_icmp_eq (tgt := 848) S.1 S.2.1 dL_law_486 (by decide) (fun _ => kk z E2 H locs hz2 hm2 hv hP hS) (fun h => absurd er h)
set_option maxHeartbeats 4000000 in
set_option maxRecDepth 100000 in
theorem zc_arc {p : Program} {e : Env} {s : State} {m : MethodId} {below : List Frame} {meth : Method} {c : Code} {Q : State → Prop} {b L i : Nat} {xs : Nat → Int32} (l : Launch) (g : xG) (S : CallFix p m c cL_law 4 s #[Value.ref b] wsL_law RL) (hJ : xJ (xad g)) (hK : xK g s) (hAd : ∀ k, k < 75 → zA s (xad g k)) (hX : va_X b L xs s s.heap) (hbl : b < s.heap.size) (hL : L ≤ 3584) (hi : i + 7 ≤ L) {z : xS} {E : Nat → va_E} {H : Heap} {locs : List Loc} (hz : sX g E z) (hm : sM g E z) (hv : vS z) (hP : xP g E H) (hS : va_S (zA s) s.heap H locs) {ls : Array Slot} (hl : lv_has ls 4 [(0, .ref b), (1, .ref (xad g 0)), (2, .ref (xad g 65)), (3, .int (nI i))]) (kk : ∀ (z1 : xS) (E1 : Nat → va_E) (H1 : Heap) (locs1 : List Loc), sX g E1 z1 → sM g E1 z1 → vS z1 → xP g E1 H1 → va_S (zA s) s.heap H1 locs1 → W p l e room_1 s m #[Value.ref b] below meth c H1 locs1 600000 7302250 Q (F0 m 848 ls [])) : W p l e room_1 s m #[Value.ref b] below meth c H locs 600000 7302250 Q (F0 m 491 ls []) := by
  refine lv_aload_n S.1 S.2.1 dL_law_491 rfl (lv_at hl 1 rfl) ?_
  refine z_a1 (n := 1) S hX hbl hS hL hi hl (by decide) dL_law_492 dL_law_493 dL_law_494 (by decide) dL_law_495 dL_law_496 ?_
  refine z_a1 (n := 2) S hX hbl hS hL hi hl (by decide) dL_law_497 dL_law_498 dL_law_499 (by decide) dL_law_500 dL_law_501 ?_
  refine z_a1 (n := 3) S hX hbl hS hL hi hl (by decide) dL_law_502 dL_law_503 dL_law_504 (by decide) dL_law_505 dL_law_506 ?_
  refine z_a1 (n := 4) S hX hbl hS hL hi hl (by decide) dL_law_507 dL_law_508 dL_law_509 (by decide) dL_law_510 dL_law_511 ?_
  refine z_a1 (n := 5) S hX hbl hS hL hi hl (by decide) dL_law_512 dL_law_513 dL_law_514 (by decide) dL_law_515 dL_law_516 ?_
  refine z_a2 (n := 6) S hX hbl hS hL hi hl (by decide) dL_law_517 dL_law_518 dL_law_519 (by decide) dL_law_521 dL_law_522 ?_
  refine z_ql (va_runV (As := [.int (xs (i + 1)), .int (xs (i + 2)), .int (xs (i + 3)), .int (xs (i + 4)), .int (xs (i + 5)), .int (xs (i + 6))]) (rest := []) S (c_X6_arc l g hJ E hz hv (xs (i + 1)) (xs (i + 2)) (xs (i + 3)) (xs (i + 4)) (xs (i + 5)) (xs (i + 6))) (cwV 6 S.2.2.2.2 gL_law_X6_arc rfl rfl rfl (by decide +kernel) ⟨Nat.le_of_ble_eq_true rfl, Nat.le_of_ble_eq_true rfl⟩) (x_preV hK hP hz.at0 (by decide) rfl) rfl rfl hl.1 rfl (lv_room (Nat.le_of_ble_eq_true rfl)) dL_law_523 ⟨Nat.le_of_ble_eq_true rfl, Nat.le_of_ble_eq_true rfl⟩) hAd hS (fun r1 E1 H locs hq hP hS => ?_)
  obtain ⟨hq1, hz1, hf1⟩ := hq
  have hm1 := hm.keep hf1
  obtain ⟨fs, hm0⟩ := hm1.at0
  refine lv_aload_n S.1 S.2.1 dL_law_526 rfl (lv_at hl 2 rfl) ?_
  refine z_a1 (n := 1) S hX hbl hS hL hi hl (by decide) dL_law_527 dL_law_528 dL_law_529 (by decide) dL_law_530 dL_law_531 ?_
  refine z_a1 (n := 2) S hX hbl hS hL hi hl (by decide) dL_law_532 dL_law_533 dL_law_534 (by decide) dL_law_535 dL_law_536 ?_
  refine z_a1 (n := 3) S hX hbl hS hL hi hl (by decide) dL_law_537 dL_law_538 dL_law_539 (by decide) dL_law_540 dL_law_541 ?_
  refine z_a1 (n := 4) S hX hbl hS hL hi hl (by decide) dL_law_542 dL_law_543 dL_law_544 (by decide) dL_law_545 dL_law_546 ?_
  refine z_a1 (n := 5) S hX hbl hS hL hi hl (by decide) dL_law_547 dL_law_548 dL_law_549 (by decide) dL_law_550 dL_law_551 ?_
  refine z_a2 (n := 6) S hX hbl hS hL hi hl (by decide) dL_law_552 dL_law_553 dL_law_554 (by decide) dL_law_556 dL_law_557 ?_
  refine z_ql (va_runV (As := [.int (xs (i + 1)), .int (xs (i + 2)), .int (xs (i + 3)), .int (xs (i + 4)), .int (xs (i + 5)), .int (xs (i + 6))]) (rest := [.long r1]) S (c_X7_arc l g hJ E1 hm1 hv (xs (i + 1)) (xs (i + 2)) (xs (i + 3)) (xs (i + 4)) (xs (i + 5)) (xs (i + 6))) (cwV 6 S.2.2.2.2 gL_law_X7_arc rfl rfl rfl (by decide +kernel) ⟨Nat.le_of_ble_eq_true rfl, Nat.le_of_ble_eq_true rfl⟩) (x_preV hK hP hm0 (by decide) rfl) rfl rfl hl.1 rfl (lv_room (Nat.le_of_ble_eq_true rfl)) dL_law_558 ⟨Nat.le_of_ble_eq_true rfl, Nat.le_of_ble_eq_true rfl⟩) hAd hS (fun r2 E2 H locs hq hP hS => ?_)
  obtain ⟨hq2, hm2, hf2⟩ := hq
  have hz2 := hz1.keep hf2
  have er := sp_arc.det hv hq1 hq2
  refine W.lcmp S.1 S.2.1 dL_law_561 ?_
  exact lv_if_eq (tgt := 848) S.1 S.2.1 dL_law_562 (by decide) (fun _ => kk z E2 H locs hz2 hm2 hv hP hS) (fun h => absurd ((lg_cmp_eq _ _).mpr er) h)
set_option maxHeartbeats 4000000 in
set_option maxRecDepth 100000 in
theorem zc_hits {p : Program} {e : Env} {s : State} {m : MethodId} {below : List Frame} {meth : Method} {c : Code} {Q : State → Prop} {b L i : Nat} {xs : Nat → Int32} (l : Launch) (g : xG) (S : CallFix p m c cL_law 4 s #[Value.ref b] wsL_law RL) (hJ : xJ (xad g)) (hK : xK g s) (hAd : ∀ k, k < 75 → zA s (xad g k)) (hX : va_X b L xs s s.heap) (hbl : b < s.heap.size) (hL : L ≤ 3584) (hi : i + 7 ≤ L) {z : xS} {E : Nat → va_E} {H : Heap} {locs : List Loc} (hz : sX g E z) (hm : sM g E z) (hv : vS z) (hP : xP g E H) (hS : va_S (zA s) s.heap H locs) {ls : Array Slot} (hl : lv_has ls 4 [(0, .ref b), (1, .ref (xad g 0)), (2, .ref (xad g 65)), (3, .int (nI i))]) (kk : ∀ (z1 : xS) (E1 : Nat → va_E) (H1 : Heap) (locs1 : List Loc), sX g E1 z1 → sM g E1 z1 → vS z1 → xP g E1 H1 → va_S (zA s) s.heap H1 locs1 → W p l e room_1 s m #[Value.ref b] below meth c H1 locs1 600000 7302250 Q (F0 m 848 ls [])) : W p l e room_1 s m #[Value.ref b] below meth c H locs 600000 7302250 Q (F0 m 567 ls []) := by
  refine lv_aload_n S.1 S.2.1 dL_law_567 rfl (lv_at hl 1 rfl) ?_
  refine z_a1 (n := 1) S hX hbl hS hL hi hl (by decide) dL_law_568 dL_law_569 dL_law_570 (by decide) dL_law_571 dL_law_572 ?_
  refine z_a1 (n := 2) S hX hbl hS hL hi hl (by decide) dL_law_573 dL_law_574 dL_law_575 (by decide) dL_law_576 dL_law_577 ?_
  refine z_a1 (n := 3) S hX hbl hS hL hi hl (by decide) dL_law_578 dL_law_579 dL_law_580 (by decide) dL_law_581 dL_law_582 ?_
  refine z_qi (va_runV (As := [.int (xs (i + 1)), .int (xs (i + 2)), .int (xs (i + 3))]) (rest := []) S (c_X6_hits l g hJ E hz hv (xs (i + 1)) (xs (i + 2)) (xs (i + 3))) (cwV 3 S.2.2.2.2 gL_law_X6_hits rfl rfl rfl (by decide +kernel) ⟨Nat.le_of_ble_eq_true rfl, Nat.le_of_ble_eq_true rfl⟩) (x_preV hK hP hz.at0 (by decide) rfl) rfl rfl hl.1 rfl (lv_room (Nat.le_of_ble_eq_true rfl)) dL_law_583 ⟨Nat.le_of_ble_eq_true rfl, Nat.le_of_ble_eq_true rfl⟩) hAd hS (fun r1 E1 H locs hq hP hS => ?_)
  obtain ⟨hq1, hz1, hf1⟩ := hq
  have hm1 := hm.keep hf1
  obtain ⟨fs, hm0⟩ := hm1.at0
  refine lv_aload_n S.1 S.2.1 dL_law_586 rfl (lv_at hl 2 rfl) ?_
  refine z_a1 (n := 1) S hX hbl hS hL hi hl (by decide) dL_law_587 dL_law_588 dL_law_589 (by decide) dL_law_590 dL_law_591 ?_
  refine z_a1 (n := 2) S hX hbl hS hL hi hl (by decide) dL_law_592 dL_law_593 dL_law_594 (by decide) dL_law_595 dL_law_596 ?_
  refine z_a1 (n := 3) S hX hbl hS hL hi hl (by decide) dL_law_597 dL_law_598 dL_law_599 (by decide) dL_law_600 dL_law_601 ?_
  refine z_qi (va_runV (As := [.int (xs (i + 1)), .int (xs (i + 2)), .int (xs (i + 3))]) (rest := [.int r1]) S (c_X7_hits l g hJ E1 hm1 hv (xs (i + 1)) (xs (i + 2)) (xs (i + 3))) (cwV 3 S.2.2.2.2 gL_law_X7_hits rfl rfl rfl (by decide +kernel) ⟨Nat.le_of_ble_eq_true rfl, Nat.le_of_ble_eq_true rfl⟩) (x_preV hK hP hm0 (by decide) rfl) rfl rfl hl.1 rfl (lv_room (Nat.le_of_ble_eq_true rfl)) dL_law_602 ⟨Nat.le_of_ble_eq_true rfl, Nat.le_of_ble_eq_true rfl⟩) hAd hS (fun r2 E2 H locs hq hP hS => ?_)
  obtain ⟨hq2, hm2, hf2⟩ := hq
  have hz2 := hz1.keep hf2
  have er := sp_hits.det hv hq1 hq2
  exact lv_icmp_eq (tgt := 848) S.1 S.2.1 dL_law_605 (by decide) (fun _ => kk z E2 H locs hz2 hm2 hv hP hS) (fun h => absurd er h)
set_option maxHeartbeats 4000000 in
set_option maxRecDepth 100000 in
theorem zc_best {p : Program} {e : Env} {s : State} {m : MethodId} {below : List Frame} {meth : Method} {c : Code} {Q : State → Prop} {b L i : Nat} {xs : Nat → Int32} (l : Launch) (g : xG) (S : CallFix p m c cL_law 4 s #[Value.ref b] wsL_law RL) (hJ : xJ (xad g)) (hK : xK g s) (hAd : ∀ k, k < 75 → zA s (xad g k)) (hX : va_X b L xs s s.heap) (hbl : b < s.heap.size) (hL : L ≤ 3584) (hi : i + 7 ≤ L) {z : xS} {E : Nat → va_E} {H : Heap} {locs : List Loc} (hz : sX g E z) (hm : sM g E z) (hv : vS z) (hP : xP g E H) (hS : va_S (zA s) s.heap H locs) {ls : Array Slot} (hl : lv_has ls 4 [(0, .ref b), (1, .ref (xad g 0)), (2, .ref (xad g 65)), (3, .int (nI i))]) (kk : ∀ (z1 : xS) (E1 : Nat → va_E) (H1 : Heap) (locs1 : List Loc), sX g E1 z1 → sM g E1 z1 → vS z1 → xP g E1 H1 → va_S (zA s) s.heap H1 locs1 → W p l e room_1 s m #[Value.ref b] below meth c H1 locs1 600000 7302250 Q (F0 m 848 ls [])) : W p l e room_1 s m #[Value.ref b] below meth c H locs 600000 7302250 Q (F0 m 610 ls []) := by
  refine lv_aload_n S.1 S.2.1 dL_law_610 rfl (lv_at hl 1 rfl) ?_
  refine z_a1 (n := 1) S hX hbl hS hL hi hl (by decide) dL_law_611 dL_law_612 dL_law_613 (by decide) dL_law_614 dL_law_615 ?_
  refine z_qi (va_runV (As := [.int (xs (i + 1))]) (rest := []) S (c_X6_best l g hJ E hz hv (xs (i + 1))) (cwV 1 S.2.2.2.2 gL_law_X6_best rfl rfl rfl (by decide +kernel) ⟨Nat.le_of_ble_eq_true rfl, Nat.le_of_ble_eq_true rfl⟩) (x_preV hK hP hz.at0 (by decide) rfl) rfl rfl hl.1 rfl (lv_room (Nat.le_of_ble_eq_true rfl)) dL_law_616 ⟨Nat.le_of_ble_eq_true rfl, Nat.le_of_ble_eq_true rfl⟩) hAd hS (fun r1 E1 H locs hq hP hS => ?_)
  obtain ⟨hq1, hz1, hf1⟩ := hq
  have hm1 := hm.keep hf1
  obtain ⟨fs, hm0⟩ := hm1.at0
  refine lv_aload_n S.1 S.2.1 dL_law_619 rfl (lv_at hl 2 rfl) ?_
  refine z_a1 (n := 1) S hX hbl hS hL hi hl (by decide) dL_law_620 dL_law_621 dL_law_622 (by decide) dL_law_623 dL_law_624 ?_
  refine z_qi (va_runV (As := [.int (xs (i + 1))]) (rest := [.int r1]) S (c_X7_best l g hJ E1 hm1 hv (xs (i + 1))) (cwV 1 S.2.2.2.2 gL_law_X7_best rfl rfl rfl (by decide +kernel) ⟨Nat.le_of_ble_eq_true rfl, Nat.le_of_ble_eq_true rfl⟩) (x_preV hK hP hm0 (by decide) rfl) rfl rfl hl.1 rfl (lv_room (Nat.le_of_ble_eq_true rfl)) dL_law_625 ⟨Nat.le_of_ble_eq_true rfl, Nat.le_of_ble_eq_true rfl⟩) hAd hS (fun r2 E2 H locs hq hP hS => ?_)
  obtain ⟨hq2, hm2, hf2⟩ := hq
  have hz2 := hz1.keep hf2
  have er := sp_best.det hv hq1 hq2
  exact lv_icmp_eq (tgt := 848) S.1 S.2.1 dL_law_628 (by decide) (fun _ => kk z E2 H locs hz2 hm2 hv hP hS) (fun h => absurd er h)
set_option maxHeartbeats 4000000 in
set_option maxRecDepth 100000 in
theorem zc_bestAt {p : Program} {e : Env} {s : State} {m : MethodId} {below : List Frame} {meth : Method} {c : Code} {Q : State → Prop} {b L i : Nat} {xs : Nat → Int32} (l : Launch) (g : xG) (S : CallFix p m c cL_law 4 s #[Value.ref b] wsL_law RL) (hJ : xJ (xad g)) (hK : xK g s) (hAd : ∀ k, k < 75 → zA s (xad g k)) (hX : va_X b L xs s s.heap) (hbl : b < s.heap.size) (hL : L ≤ 3584) (hi : i + 7 ≤ L) {z : xS} {E : Nat → va_E} {H : Heap} {locs : List Loc} (hz : sX g E z) (hm : sM g E z) (hv : vS z) (hP : xP g E H) (hS : va_S (zA s) s.heap H locs) {ls : Array Slot} (hl : lv_has ls 4 [(0, .ref b), (1, .ref (xad g 0)), (2, .ref (xad g 65)), (3, .int (nI i))]) (kk : ∀ (z1 : xS) (E1 : Nat → va_E) (H1 : Heap) (locs1 : List Loc), sX g E1 z1 → sM g E1 z1 → vS z1 → xP g E1 H1 → va_S (zA s) s.heap H1 locs1 → W p l e room_1 s m #[Value.ref b] below meth c H1 locs1 600000 7302250 Q (F0 m 848 ls [])) : W p l e room_1 s m #[Value.ref b] below meth c H locs 600000 7302250 Q (F0 m 633 ls []) := by
  refine lv_aload_n S.1 S.2.1 dL_law_633 rfl (lv_at hl 1 rfl) ?_
  refine z_a1 (n := 1) S hX hbl hS hL hi hl (by decide) dL_law_634 dL_law_635 dL_law_636 (by decide) dL_law_637 dL_law_638 ?_
  refine z_a1 (n := 2) S hX hbl hS hL hi hl (by decide) dL_law_639 dL_law_640 dL_law_641 (by decide) dL_law_642 dL_law_643 ?_
  refine z_a1 (n := 3) S hX hbl hS hL hi hl (by decide) dL_law_644 dL_law_645 dL_law_646 (by decide) dL_law_647 dL_law_648 ?_
  refine z_ql (va_runV (As := [.int (xs (i + 1)), .int (xs (i + 2)), .int (xs (i + 3))]) (rest := []) S (c_X6_bestAt l g hJ E hz hv (xs (i + 1)) (xs (i + 2)) (xs (i + 3))) (cwV 3 S.2.2.2.2 gL_law_X6_bestAt rfl rfl rfl (by decide +kernel) ⟨Nat.le_of_ble_eq_true rfl, Nat.le_of_ble_eq_true rfl⟩) (x_preV hK hP hz.at0 (by decide) rfl) rfl rfl hl.1 rfl (lv_room (Nat.le_of_ble_eq_true rfl)) dL_law_649 ⟨Nat.le_of_ble_eq_true rfl, Nat.le_of_ble_eq_true rfl⟩) hAd hS (fun r1 E1 H locs hq hP hS => ?_)
  obtain ⟨hq1, hz1, hf1⟩ := hq
  have hm1 := hm.keep hf1
  obtain ⟨fs, hm0⟩ := hm1.at0
  refine lv_aload_n S.1 S.2.1 dL_law_652 rfl (lv_at hl 2 rfl) ?_
  refine z_a1 (n := 1) S hX hbl hS hL hi hl (by decide) dL_law_653 dL_law_654 dL_law_655 (by decide) dL_law_656 dL_law_657 ?_
  refine z_a1 (n := 2) S hX hbl hS hL hi hl (by decide) dL_law_658 dL_law_659 dL_law_660 (by decide) dL_law_661 dL_law_662 ?_
  refine z_a1 (n := 3) S hX hbl hS hL hi hl (by decide) dL_law_663 dL_law_664 dL_law_665 (by decide) dL_law_666 dL_law_667 ?_
  refine z_ql (va_runV (As := [.int (xs (i + 1)), .int (xs (i + 2)), .int (xs (i + 3))]) (rest := [.long r1]) S (c_X7_bestAt l g hJ E1 hm1 hv (xs (i + 1)) (xs (i + 2)) (xs (i + 3))) (cwV 3 S.2.2.2.2 gL_law_X7_bestAt rfl rfl rfl (by decide +kernel) ⟨Nat.le_of_ble_eq_true rfl, Nat.le_of_ble_eq_true rfl⟩) (x_preV hK hP hm0 (by decide) rfl) rfl rfl hl.1 rfl (lv_room (Nat.le_of_ble_eq_true rfl)) dL_law_668 ⟨Nat.le_of_ble_eq_true rfl, Nat.le_of_ble_eq_true rfl⟩) hAd hS (fun r2 E2 H locs hq hP hS => ?_)
  obtain ⟨hq2, hm2, hf2⟩ := hq
  have hz2 := hz1.keep hf2
  have er := sp_bestAt.det hv hq1 hq2
  refine W.lcmp S.1 S.2.1 dL_law_671 ?_
  exact lv_if_eq (tgt := 848) S.1 S.2.1 dL_law_672 (by decide) (fun _ => kk z E2 H locs hz2 hm2 hv hP hS) (fun h => absurd ((lg_cmp_eq _ _).mpr er) h)
set_option maxHeartbeats 4000000 in
set_option maxRecDepth 100000 in
theorem zc_lands {p : Program} {e : Env} {s : State} {m : MethodId} {below : List Frame} {meth : Method} {c : Code} {Q : State → Prop} {b L i : Nat} {xs : Nat → Int32} (l : Launch) (g : xG) (S : CallFix p m c cL_law 4 s #[Value.ref b] wsL_law RL) (hJ : xJ (xad g)) (hK : xK g s) (hAd : ∀ k, k < 75 → zA s (xad g k)) (hX : va_X b L xs s s.heap) (hbl : b < s.heap.size) (hL : L ≤ 3584) (hi : i + 7 ≤ L) {z : xS} {E : Nat → va_E} {H : Heap} {locs : List Loc} (hz : sX g E z) (hm : sM g E z) (hv : vS z) (hP : xP g E H) (hS : va_S (zA s) s.heap H locs) {ls : Array Slot} (hl : lv_has ls 4 [(0, .ref b), (1, .ref (xad g 0)), (2, .ref (xad g 65)), (3, .int (nI i))]) (kk : ∀ (z1 : xS) (E1 : Nat → va_E) (H1 : Heap) (locs1 : List Loc), sX g E1 z1 → sM g E1 z1 → vS z1 → xP g E1 H1 → va_S (zA s) s.heap H1 locs1 → W p l e room_1 s m #[Value.ref b] below meth c H1 locs1 600000 7302250 Q (F0 m 848 ls [])) : W p l e room_1 s m #[Value.ref b] below meth c H locs 600000 7302250 Q (F0 m 677 ls []) := by
  refine lv_aload_n S.1 S.2.1 dL_law_677 rfl (lv_at hl 1 rfl) ?_
  refine z_qi (va_runV (As := []) (rest := []) S (c_X6_lands l g hJ E hz hv ) (cwV 0 S.2.2.2.2 gL_law_X6_lands rfl rfl rfl (by decide +kernel) ⟨Nat.le_of_ble_eq_true rfl, Nat.le_of_ble_eq_true rfl⟩) (x_preV hK hP hz.at0 (by decide) rfl) rfl rfl hl.1 rfl (lv_room (Nat.le_of_ble_eq_true rfl)) dL_law_678 ⟨Nat.le_of_ble_eq_true rfl, Nat.le_of_ble_eq_true rfl⟩) hAd hS (fun r1 E1 H locs hq hP hS => ?_)
  obtain ⟨hq1, hz1, hf1⟩ := hq
  have hm1 := hm.keep hf1
  obtain ⟨fs, hm0⟩ := hm1.at0
  refine lv_aload_n S.1 S.2.1 dL_law_681 rfl (lv_at hl 2 rfl) ?_
  refine z_qi (va_runV (As := []) (rest := [.int r1]) S (c_X7_lands l g hJ E1 hm1 hv ) (cwV 0 S.2.2.2.2 gL_law_X7_lands rfl rfl rfl (by decide +kernel) ⟨Nat.le_of_ble_eq_true rfl, Nat.le_of_ble_eq_true rfl⟩) (x_preV hK hP hm0 (by decide) rfl) rfl rfl hl.1 rfl (lv_room (Nat.le_of_ble_eq_true rfl)) dL_law_682 ⟨Nat.le_of_ble_eq_true rfl, Nat.le_of_ble_eq_true rfl⟩) hAd hS (fun r2 E2 H locs hq hP hS => ?_)
  obtain ⟨hq2, hm2, hf2⟩ := hq
  have hz2 := hz1.keep hf2
  have er := sp_lands.det hv hq1 hq2
  exact lv_icmp_eq (tgt := 848) S.1 S.2.1 dL_law_685 (by decide) (fun _ => kk z E2 H locs hz2 hm2 hv hP hS) (fun h => absurd er h)
set_option maxHeartbeats 4000000 in
set_option maxRecDepth 100000 in
theorem zc_track {p : Program} {e : Env} {s : State} {m : MethodId} {below : List Frame} {meth : Method} {c : Code} {Q : State → Prop} {b L i : Nat} {xs : Nat → Int32} (l : Launch) (g : xG) (S : CallFix p m c cL_law 4 s #[Value.ref b] wsL_law RL) (hJ : xJ (xad g)) (hK : xK g s) (hAd : ∀ k, k < 75 → zA s (xad g k)) (hX : va_X b L xs s s.heap) (hbl : b < s.heap.size) (hL : L ≤ 3584) (hi : i + 7 ≤ L) {z : xS} {E : Nat → va_E} {H : Heap} {locs : List Loc} (hz : sX g E z) (hm : sM g E z) (hv : vS z) (hP : xP g E H) (hS : va_S (zA s) s.heap H locs) {ls : Array Slot} (hl : lv_has ls 4 [(0, .ref b), (1, .ref (xad g 0)), (2, .ref (xad g 65)), (3, .int (nI i))]) (kk : ∀ (z1 : xS) (E1 : Nat → va_E) (H1 : Heap) (locs1 : List Loc), sX g E1 z1 → sM g E1 z1 → vS z1 → xP g E1 H1 → va_S (zA s) s.heap H1 locs1 → W p l e room_1 s m #[Value.ref b] below meth c H1 locs1 600000 7302250 Q (F0 m 848 ls [])) : W p l e room_1 s m #[Value.ref b] below meth c H locs 600000 7302250 Q (F0 m 690 ls []) := by
  refine lv_aload_n S.1 S.2.1 dL_law_690 rfl (lv_at hl 1 rfl) ?_
  refine z_a1 (n := 1) S hX hbl hS hL hi hl (by decide) dL_law_691 dL_law_692 dL_law_693 (by decide) dL_law_694 dL_law_695 ?_
  refine z_a1 (n := 2) S hX hbl hS hL hi hl (by decide) dL_law_696 dL_law_697 dL_law_698 (by decide) dL_law_699 dL_law_700 ?_
  refine z_qi (va_runV (As := [.int (xs (i + 1)), .int (xs (i + 2))]) (rest := []) S (c_X6_track l g hJ E hz hv (xs (i + 1)) (xs (i + 2))) (cwV 2 S.2.2.2.2 gL_law_X6_track rfl rfl rfl (by decide +kernel) ⟨Nat.le_of_ble_eq_true rfl, Nat.le_of_ble_eq_true rfl⟩) (x_preV hK hP hz.at0 (by decide) rfl) rfl rfl hl.1 rfl (lv_room (Nat.le_of_ble_eq_true rfl)) dL_law_701 ⟨Nat.le_of_ble_eq_true rfl, Nat.le_of_ble_eq_true rfl⟩) hAd hS (fun r1 E1 H locs hq hP hS => ?_)
  obtain ⟨hq1, hz1, hf1⟩ := hq
  have hm1 := hm.keep hf1
  obtain ⟨fs, hm0⟩ := hm1.at0
  refine lv_aload_n S.1 S.2.1 dL_law_704 rfl (lv_at hl 2 rfl) ?_
  refine z_a1 (n := 1) S hX hbl hS hL hi hl (by decide) dL_law_705 dL_law_706 dL_law_707 (by decide) dL_law_708 dL_law_709 ?_
  refine z_a1 (n := 2) S hX hbl hS hL hi hl (by decide) dL_law_710 dL_law_711 dL_law_712 (by decide) dL_law_713 dL_law_714 ?_
  refine z_qi (va_runV (As := [.int (xs (i + 1)), .int (xs (i + 2))]) (rest := [.int r1]) S (c_X7_track l g hJ E1 hm1 hv (xs (i + 1)) (xs (i + 2))) (cwV 2 S.2.2.2.2 gL_law_X7_track rfl rfl rfl (by decide +kernel) ⟨Nat.le_of_ble_eq_true rfl, Nat.le_of_ble_eq_true rfl⟩) (x_preV hK hP hm0 (by decide) rfl) rfl rfl hl.1 rfl (lv_room (Nat.le_of_ble_eq_true rfl)) dL_law_715 ⟨Nat.le_of_ble_eq_true rfl, Nat.le_of_ble_eq_true rfl⟩) hAd hS (fun r2 E2 H locs hq hP hS => ?_)
  obtain ⟨hq2, hm2, hf2⟩ := hq
  have hz2 := hz1.keep hf2
  have er := sp_track.det hv hq1 hq2
  exact lv_icmp_eq (tgt := 848) S.1 S.2.1 dL_law_718 (by decide) (fun _ => kk z E2 H locs hz2 hm2 hv hP hS) (fun h => absurd er h)
set_option maxHeartbeats 4000000 in
set_option maxRecDepth 100000 in
theorem zc_fitsFrom {p : Program} {e : Env} {s : State} {m : MethodId} {below : List Frame} {meth : Method} {c : Code} {Q : State → Prop} {b L i : Nat} {xs : Nat → Int32} (l : Launch) (g : xG) (S : CallFix p m c cL_law 4 s #[Value.ref b] wsL_law RL) (hJ : xJ (xad g)) (hK : xK g s) (hAd : ∀ k, k < 75 → zA s (xad g k)) (hX : va_X b L xs s s.heap) (hbl : b < s.heap.size) (hL : L ≤ 3584) (hi : i + 7 ≤ L) {z : xS} {E : Nat → va_E} {H : Heap} {locs : List Loc} (hz : sX g E z) (hm : sM g E z) (hv : vS z) (hP : xP g E H) (hS : va_S (zA s) s.heap H locs) {ls : Array Slot} (hl : lv_has ls 4 [(0, .ref b), (1, .ref (xad g 0)), (2, .ref (xad g 65)), (3, .int (nI i))]) (kk : ∀ (z1 : xS) (E1 : Nat → va_E) (H1 : Heap) (locs1 : List Loc), sX g E1 z1 → sM g E1 z1 → vS z1 → xP g E1 H1 → va_S (zA s) s.heap H1 locs1 → W p l e room_1 s m #[Value.ref b] below meth c H1 locs1 600000 7302250 Q (F0 m 848 ls [])) : W p l e room_1 s m #[Value.ref b] below meth c H locs 600000 7302250 Q (F0 m 723 ls []) := by
  refine lv_aload_n S.1 S.2.1 dL_law_723 rfl (lv_at hl 1 rfl) ?_
  refine z_a1 (n := 1) S hX hbl hS hL hi hl (by decide) dL_law_724 dL_law_725 dL_law_726 (by decide) dL_law_727 dL_law_728 ?_
  refine z_qi (va_runV (As := [.int (xs (i + 1))]) (rest := []) S (c_X6_fitsFrom l g hJ E hz hv (xs (i + 1))) (cwV 1 S.2.2.2.2 gL_law_X6_fitsFrom rfl rfl rfl (by decide +kernel) ⟨Nat.le_of_ble_eq_true rfl, Nat.le_of_ble_eq_true rfl⟩) (x_preV hK hP hz.at0 (by decide) rfl) rfl rfl hl.1 rfl (lv_room (Nat.le_of_ble_eq_true rfl)) dL_law_729 ⟨Nat.le_of_ble_eq_true rfl, Nat.le_of_ble_eq_true rfl⟩) hAd hS (fun r1 E1 H locs hq hP hS => ?_)
  obtain ⟨hq1, hz1, hf1⟩ := hq
  have hm1 := hm.keep hf1
  obtain ⟨fs, hm0⟩ := hm1.at0
  refine lv_aload_n S.1 S.2.1 dL_law_732 rfl (lv_at hl 2 rfl) ?_
  refine z_a1 (n := 1) S hX hbl hS hL hi hl (by decide) dL_law_733 dL_law_734 dL_law_735 (by decide) dL_law_736 dL_law_737 ?_
  refine z_qi (va_runV (As := [.int (xs (i + 1))]) (rest := [.int r1]) S (c_X7_fitsFrom l g hJ E1 hm1 hv (xs (i + 1))) (cwV 1 S.2.2.2.2 gL_law_X7_fitsFrom rfl rfl rfl (by decide +kernel) ⟨Nat.le_of_ble_eq_true rfl, Nat.le_of_ble_eq_true rfl⟩) (x_preV hK hP hm0 (by decide) rfl) rfl rfl hl.1 rfl (lv_room (Nat.le_of_ble_eq_true rfl)) dL_law_738 ⟨Nat.le_of_ble_eq_true rfl, Nat.le_of_ble_eq_true rfl⟩) hAd hS (fun r2 E2 H locs hq hP hS => ?_)
  obtain ⟨hq2, hm2, hf2⟩ := hq
  have hz2 := hz1.keep hf2
  have er := sp_fitsFrom.det hv hq1 hq2
  exact lv_icmp_eq (tgt := 848) S.1 S.2.1 dL_law_741 (by decide) (fun _ => kk z E2 H locs hz2 hm2 hv hP hS) (fun h => absurd er h)
set_option maxHeartbeats 4000000 in
set_option maxRecDepth 100000 in
theorem zc_spin {p : Program} {e : Env} {s : State} {m : MethodId} {below : List Frame} {meth : Method} {c : Code} {Q : State → Prop} {b L i : Nat} {xs : Nat → Int32} (l : Launch) (g : xG) (S : CallFix p m c cL_law 4 s #[Value.ref b] wsL_law RL) (hJ : xJ (xad g)) (hK : xK g s) (hAd : ∀ k, k < 75 → zA s (xad g k)) (hX : va_X b L xs s s.heap) (hbl : b < s.heap.size) (hL : L ≤ 3584) (hi : i + 7 ≤ L) {z : xS} {E : Nat → va_E} {H : Heap} {locs : List Loc} (hz : sX g E z) (hm : sM g E z) (hv : vS z) (hP : xP g E H) (hS : va_S (zA s) s.heap H locs) {ls : Array Slot} (hl : lv_has ls 4 [(0, .ref b), (1, .ref (xad g 0)), (2, .ref (xad g 65)), (3, .int (nI i))]) (kk : ∀ (z1 : xS) (E1 : Nat → va_E) (H1 : Heap) (locs1 : List Loc), sX g E1 z1 → sM g E1 z1 → vS z1 → xP g E1 H1 → va_S (zA s) s.heap H1 locs1 → W p l e room_1 s m #[Value.ref b] below meth c H1 locs1 600000 7302250 Q (F0 m 848 ls [])) : W p l e room_1 s m #[Value.ref b] below meth c H locs 600000 7302250 Q (F0 m 746 ls []) := by
  refine lv_aload_n S.1 S.2.1 dL_law_746 rfl (lv_at hl 1 rfl) ?_
  refine z_a1 (n := 1) S hX hbl hS hL hi hl (by decide) dL_law_747 dL_law_748 dL_law_749 (by decide) dL_law_750 dL_law_751 ?_
  refine z_qi (va_runV (As := [.int (xs (i + 1))]) (rest := []) S (c_X6_spin l g hJ E hz hv (xs (i + 1))) (cwV 1 S.2.2.2.2 gL_law_X6_spin rfl rfl rfl (by decide +kernel) ⟨Nat.le_of_ble_eq_true rfl, Nat.le_of_ble_eq_true rfl⟩) (x_preV hK hP hz.at0 (by decide) rfl) rfl rfl hl.1 rfl (lv_room (Nat.le_of_ble_eq_true rfl)) dL_law_752 ⟨Nat.le_of_ble_eq_true rfl, Nat.le_of_ble_eq_true rfl⟩) hAd hS (fun r1 E1 H locs hq hP hS => ?_)
  obtain ⟨hq1, hz1, hf1⟩ := hq
  have hm1 := hm.keep hf1
  obtain ⟨fs, hm0⟩ := hm1.at0
  refine lv_aload_n S.1 S.2.1 dL_law_755 rfl (lv_at hl 2 rfl) ?_
  refine z_a1 (n := 1) S hX hbl hS hL hi hl (by decide) dL_law_756 dL_law_757 dL_law_758 (by decide) dL_law_759 dL_law_760 ?_
  refine z_qi (va_runV (As := [.int (xs (i + 1))]) (rest := [.int r1]) S (c_X7_spin l g hJ E1 hm1 hv (xs (i + 1))) (cwV 1 S.2.2.2.2 gL_law_X7_spin rfl rfl rfl (by decide +kernel) ⟨Nat.le_of_ble_eq_true rfl, Nat.le_of_ble_eq_true rfl⟩) (x_preV hK hP hm0 (by decide) rfl) rfl rfl hl.1 rfl (lv_room (Nat.le_of_ble_eq_true rfl)) dL_law_761 ⟨Nat.le_of_ble_eq_true rfl, Nat.le_of_ble_eq_true rfl⟩) hAd hS (fun r2 E2 H locs hq hP hS => ?_)
  obtain ⟨hq2, hm2, hf2⟩ := hq
  have hz2 := hz1.keep hf2
  have er := sp_spin.det hq1 hq2
  exact lv_icmp_eq (tgt := 848) S.1 S.2.1 dL_law_764 (by decide) (fun _ => kk z E2 H locs hz2 hm2 hv hP hS) (fun h => absurd er h)
set_option maxHeartbeats 4000000 in
set_option maxRecDepth 100000 in
theorem zc_fits {p : Program} {e : Env} {s : State} {m : MethodId} {below : List Frame} {meth : Method} {c : Code} {Q : State → Prop} {b L i : Nat} {xs : Nat → Int32} (l : Launch) (g : xG) (S : CallFix p m c cL_law 4 s #[Value.ref b] wsL_law RL) (hJ : xJ (xad g)) (hK : xK g s) (hAd : ∀ k, k < 75 → zA s (xad g k)) (hX : va_X b L xs s s.heap) (hbl : b < s.heap.size) (hL : L ≤ 3584) (hi : i + 7 ≤ L) {z : xS} {E : Nat → va_E} {H : Heap} {locs : List Loc} (hz : sX g E z) (hm : sM g E z) (hv : vS z) (hP : xP g E H) (hS : va_S (zA s) s.heap H locs) {ls : Array Slot} (hl : lv_has ls 4 [(0, .ref b), (1, .ref (xad g 0)), (2, .ref (xad g 65)), (3, .int (nI i))]) (kk : ∀ (z1 : xS) (E1 : Nat → va_E) (H1 : Heap) (locs1 : List Loc), sX g E1 z1 → sM g E1 z1 → vS z1 → xP g E1 H1 → va_S (zA s) s.heap H1 locs1 → W p l e room_1 s m #[Value.ref b] below meth c H1 locs1 600000 7302250 Q (F0 m 848 ls [])) : W p l e room_1 s m #[Value.ref b] below meth c H locs 600000 7302250 Q (F0 m 769 ls []) := by
  refine lv_aload_n S.1 S.2.1 dL_law_769 rfl (lv_at hl 1 rfl) ?_
  refine z_a1 (n := 1) S hX hbl hS hL hi hl (by decide) dL_law_770 dL_law_771 dL_law_772 (by decide) dL_law_773 dL_law_774 ?_
  refine z_a1 (n := 2) S hX hbl hS hL hi hl (by decide) dL_law_775 dL_law_776 dL_law_777 (by decide) dL_law_778 dL_law_779 ?_
  refine z_qi (va_runV (As := [.int (xs (i + 1)), .int (xs (i + 2))]) (rest := []) S (c_X6_fits l g hJ E hz hv (xs (i + 1)) (xs (i + 2))) (cwV 2 S.2.2.2.2 gL_law_X6_fits rfl rfl rfl (by decide +kernel) ⟨Nat.le_of_ble_eq_true rfl, Nat.le_of_ble_eq_true rfl⟩) (x_preV hK hP hz.at0 (by decide) rfl) rfl rfl hl.1 rfl (lv_room (Nat.le_of_ble_eq_true rfl)) dL_law_780 ⟨Nat.le_of_ble_eq_true rfl, Nat.le_of_ble_eq_true rfl⟩) hAd hS (fun r1 E1 H locs hq hP hS => ?_)
  obtain ⟨hq1, hz1, hf1⟩ := hq
  have hm1 := hm.keep hf1
  obtain ⟨fs, hm0⟩ := hm1.at0
  refine lv_aload_n S.1 S.2.1 dL_law_783 rfl (lv_at hl 2 rfl) ?_
  refine z_a1 (n := 1) S hX hbl hS hL hi hl (by decide) dL_law_784 dL_law_785 dL_law_786 (by decide) dL_law_787 dL_law_788 ?_
  refine z_a1 (n := 2) S hX hbl hS hL hi hl (by decide) dL_law_789 dL_law_790 dL_law_791 (by decide) dL_law_792 dL_law_793 ?_
  refine z_qi (va_runV (As := [.int (xs (i + 1)), .int (xs (i + 2))]) (rest := [.int r1]) S (c_X7_fits l g hJ E1 hm1 hv (xs (i + 1)) (xs (i + 2))) (cwV 2 S.2.2.2.2 gL_law_X7_fits rfl rfl rfl (by decide +kernel) ⟨Nat.le_of_ble_eq_true rfl, Nat.le_of_ble_eq_true rfl⟩) (x_preV hK hP hm0 (by decide) rfl) rfl rfl hl.1 rfl (lv_room (Nat.le_of_ble_eq_true rfl)) dL_law_794 ⟨Nat.le_of_ble_eq_true rfl, Nat.le_of_ble_eq_true rfl⟩) hAd hS (fun r2 E2 H locs hq hP hS => ?_)
  obtain ⟨hq2, hm2, hf2⟩ := hq
  have hz2 := hz1.keep hf2
  have er := sp_fits.det hq1 hq2
  exact lv_icmp_eq (tgt := 848) S.1 S.2.1 dL_law_797 (by decide) (fun _ => kk z E2 H locs hz2 hm2 hv hP hS) (fun h => absurd er h)
set_option maxHeartbeats 4000000 in
set_option maxRecDepth 100000 in
theorem zc_angleAt {p : Program} {e : Env} {s : State} {m : MethodId} {below : List Frame} {meth : Method} {c : Code} {Q : State → Prop} {b L i : Nat} {xs : Nat → Int32} (l : Launch) (g : xG) (S : CallFix p m c cL_law 4 s #[Value.ref b] wsL_law RL) (hJ : xJ (xad g)) (hK : xK g s) (hAd : ∀ k, k < 75 → zA s (xad g k)) (hX : va_X b L xs s s.heap) (hbl : b < s.heap.size) (hL : L ≤ 3584) (hi : i + 7 ≤ L) {z : xS} {E : Nat → va_E} {H : Heap} {locs : List Loc} (hz : sX g E z) (hm : sM g E z) (hv : vS z) (hP : xP g E H) (hS : va_S (zA s) s.heap H locs) {ls : Array Slot} (hl : lv_has ls 4 [(0, .ref b), (1, .ref (xad g 0)), (2, .ref (xad g 65)), (3, .int (nI i))]) (kk : ∀ (z1 : xS) (E1 : Nat → va_E) (H1 : Heap) (locs1 : List Loc), sX g E1 z1 → sM g E1 z1 → vS z1 → xP g E1 H1 → va_S (zA s) s.heap H1 locs1 → W p l e room_1 s m #[Value.ref b] below meth c H1 locs1 600000 7302250 Q (F0 m 848 ls [])) : W p l e room_1 s m #[Value.ref b] below meth c H locs 600000 7302250 Q (F0 m 802 ls []) := by
  refine lv_aload_n S.1 S.2.1 dL_law_802 rfl (lv_at hl 1 rfl) ?_
  refine z_a1 (n := 1) S hX hbl hS hL hi hl (by decide) dL_law_803 dL_law_804 dL_law_805 (by decide) dL_law_806 dL_law_807 ?_
  refine z_qi (va_runV (As := [.int (xs (i + 1))]) (rest := []) S (c_X6_angleAt l g hJ E hz hv (xs (i + 1))) (cwV 1 S.2.2.2.2 gL_law_X6_angleAt rfl rfl rfl (by decide +kernel) ⟨Nat.le_of_ble_eq_true rfl, Nat.le_of_ble_eq_true rfl⟩) (x_preV hK hP hz.at0 (by decide) rfl) rfl rfl hl.1 rfl (lv_room (Nat.le_of_ble_eq_true rfl)) dL_law_808 ⟨Nat.le_of_ble_eq_true rfl, Nat.le_of_ble_eq_true rfl⟩) hAd hS (fun r1 E1 H locs hq hP hS => ?_)
  obtain ⟨hq1, hz1, hf1⟩ := hq
  have hm1 := hm.keep hf1
  obtain ⟨fs, hm0⟩ := hm1.at0
  refine lv_aload_n S.1 S.2.1 dL_law_811 rfl (lv_at hl 2 rfl) ?_
  refine z_a1 (n := 1) S hX hbl hS hL hi hl (by decide) dL_law_812 dL_law_813 dL_law_814 (by decide) dL_law_815 dL_law_816 ?_
  refine z_qi (va_runV (As := [.int (xs (i + 1))]) (rest := [.int r1]) S (c_X7_angleAt l g hJ E1 hm1 hv (xs (i + 1))) (cwV 1 S.2.2.2.2 gL_law_X7_angleAt rfl rfl rfl (by decide +kernel) ⟨Nat.le_of_ble_eq_true rfl, Nat.le_of_ble_eq_true rfl⟩) (x_preV hK hP hm0 (by decide) rfl) rfl rfl hl.1 rfl (lv_room (Nat.le_of_ble_eq_true rfl)) dL_law_817 ⟨Nat.le_of_ble_eq_true rfl, Nat.le_of_ble_eq_true rfl⟩) hAd hS (fun r2 E2 H locs hq hP hS => ?_)
  obtain ⟨hq2, hm2, hf2⟩ := hq
  have hz2 := hz1.keep hf2
  have er := sp_angleAt.det hq1 hq2
  exact lv_icmp_eq (tgt := 848) S.1 S.2.1 dL_law_820 (by decide) (fun _ => kk z E2 H locs hz2 hm2 hv hP hS) (fun h => absurd er h)
set_option maxHeartbeats 4000000 in
set_option maxRecDepth 100000 in
theorem zc_count {p : Program} {e : Env} {s : State} {m : MethodId} {below : List Frame} {meth : Method} {c : Code} {Q : State → Prop} {b L i : Nat} {xs : Nat → Int32} (l : Launch) (g : xG) (S : CallFix p m c cL_law 4 s #[Value.ref b] wsL_law RL) (hJ : xJ (xad g)) (hK : xK g s) (hAd : ∀ k, k < 75 → zA s (xad g k)) (hX : va_X b L xs s s.heap) (hbl : b < s.heap.size) (hL : L ≤ 3584) (hi : i + 7 ≤ L) {z : xS} {E : Nat → va_E} {H : Heap} {locs : List Loc} (hz : sX g E z) (hm : sM g E z) (hv : vS z) (hP : xP g E H) (hS : va_S (zA s) s.heap H locs) {ls : Array Slot} (hl : lv_has ls 4 [(0, .ref b), (1, .ref (xad g 0)), (2, .ref (xad g 65)), (3, .int (nI i))]) (kk : ∀ (z1 : xS) (E1 : Nat → va_E) (H1 : Heap) (locs1 : List Loc), sX g E1 z1 → sM g E1 z1 → vS z1 → xP g E1 H1 → va_S (zA s) s.heap H1 locs1 → W p l e room_1 s m #[Value.ref b] below meth c H1 locs1 600000 7302250 Q (F0 m 848 ls [])) : W p l e room_1 s m #[Value.ref b] below meth c H locs 600000 7302250 Q (F0 m 825 ls []) := by
  refine lv_aload_n S.1 S.2.1 dL_law_825 rfl (lv_at hl 1 rfl) ?_
  refine z_a1 (n := 1) S hX hbl hS hL hi hl (by decide) dL_law_826 dL_law_827 dL_law_828 (by decide) dL_law_829 dL_law_830 ?_
  refine z_qi (va_runV (As := [.int (xs (i + 1))]) (rest := []) S (c_X6_count l g hJ E hz hv (xs (i + 1))) (cwV 1 S.2.2.2.2 gL_law_X6_count rfl rfl rfl (by decide +kernel) ⟨Nat.le_of_ble_eq_true rfl, Nat.le_of_ble_eq_true rfl⟩) (x_preV hK hP hz.at0 (by decide) rfl) rfl rfl hl.1 rfl (lv_room (Nat.le_of_ble_eq_true rfl)) dL_law_831 ⟨Nat.le_of_ble_eq_true rfl, Nat.le_of_ble_eq_true rfl⟩) hAd hS (fun r1 E1 H locs hq hP hS => ?_)
  obtain ⟨hq1, hz1, hf1⟩ := hq
  have hm1 := hm.keep hf1
  obtain ⟨fs, hm0⟩ := hm1.at0
  refine lv_aload_n S.1 S.2.1 dL_law_834 rfl (lv_at hl 2 rfl) ?_
  refine z_a1 (n := 1) S hX hbl hS hL hi hl (by decide) dL_law_835 dL_law_836 dL_law_837 (by decide) dL_law_838 dL_law_839 ?_
  refine z_qi (va_runV (As := [.int (xs (i + 1))]) (rest := [.int r1]) S (c_X7_count l g hJ E1 hm1 hv (xs (i + 1))) (cwV 1 S.2.2.2.2 gL_law_X7_count rfl rfl rfl (by decide +kernel) ⟨Nat.le_of_ble_eq_true rfl, Nat.le_of_ble_eq_true rfl⟩) (x_preV hK hP hm0 (by decide) rfl) rfl rfl hl.1 rfl (lv_room (Nat.le_of_ble_eq_true rfl)) dL_law_840 ⟨Nat.le_of_ble_eq_true rfl, Nat.le_of_ble_eq_true rfl⟩) hAd hS (fun r2 E2 H locs hq hP hS => ?_)
  obtain ⟨hq2, hm2, hf2⟩ := hq
  have hz2 := hz1.keep hf2
  have er := sp_count.det hq1 hq2
  exact lv_icmp_eq (tgt := 848) S.1 S.2.1 dL_law_843 (by decide) (fun _ => kk z E2 H locs hz2 hm2 hv hP hS) (fun h => absurd er h)
