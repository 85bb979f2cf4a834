/-! THE LAW: bits, low, upper, digest, photos -/
set_option maxHeartbeats 4000000 in
set_option maxRecDepth 100000 in
theorem c_L_low (l : Launch) (g : xG) (E : Nat → va_E) (x : Int32) {d : Nat} (h0 : 0 < d) (hd : d < 1000)  : Met l yL_low wsL_low ({ frames := 0, cells := 0, slots := 0, locals := 0 }) (xPc g [.int x, .int (nI d)] E) (vp_Si (fun r => ∃ q, q < d ∧ r = nI q)) 0 0 (fun _ => False) := by
  refine x_met (ws' := _) (by decide) rfl (Nat.le_of_ble_eq_true rfl) ?_
  intro pz ez s m below meth cz ls S hr hlocks hP hK hl
  have hl : lv_has ls 2 [(0, .int x), (1, .int (nI d))] := hl
  refine lv_iload_n S.1 S.2.1 dL_low_0 rfl (lv_at hl 0 rfl) ?_
  refine lv_ldc S.1 S.2.1 S.2.2.2.1 (S.2.2.2.2 (.constant RL 8 2147483647) (by decide +kernel)) dL_low_1 ?_
  refine lv_iand S.1 S.2.1 dL_low_3 ?_
  refine lv_iload_n S.1 S.2.1 dL_low_4 rfl (lv_at hl 1 rfl) ?_
  refine lv_irem S.1 S.2.1 dL_low_5 (nI_ne0 h0 (by omega)) ?_
  exact x_iretR S hr hlocks dL_low_6 (low_v x h0 hd)
set_option maxHeartbeats 4000000 in
set_option maxRecDepth 100000 in
theorem c_L_upper (l : Launch) (g : xG) (E : Nat → va_E) (x : Int64)  : Met l yL_upper wsL_upper ({ frames := 0, cells := 0, slots := 0, locals := 0 }) (xPc g [.long x] E) (vp_Sl (fun r => r = x - 10000000000)) 0 0 (fun _ => False) := by
  refine x_met (ws' := _) (by decide) rfl (Nat.le_of_ble_eq_true rfl) ?_
  intro pz ez s m below meth cz ls S hr hlocks hP hK hl
  have hl : lv_has ls 2 [(0, .long x)] := hl
  refine lv_lload_n S.1 S.2.1 dL_upper_0 rfl (lv_at hl 0 rfl) ?_
  refine lv_ldc2 S.1 S.2.1 S.2.2.2.1 (S.2.2.2.2 (.constantLong RL 23 10000000000) (by decide +kernel)) dL_upper_1 ?_
  refine lv_lsub S.1 S.2.1 dL_upper_4 ?_
  exact x_lretR S hr hlocks dL_upper_5 rfl
set_option maxHeartbeats 4000000 in
set_option maxRecDepth 100000 in
theorem c_L_bits (l : Launch) (g : xG) (E : Nat → va_E) {a : Nat} (ha : a < 1024)  : Met l yL_bits wsL_bits ({ frames := 0, cells := 0, slots := 0, locals := 0 }) (xPc g [.int (nI a)] E) (vp_Si (fun r => r = nI (pop a))) 0 0 (fun _ => False) := by
  refine x_met (ws' := _) (by decide) rfl (Nat.le_of_ble_eq_true rfl) ?_
  intro pz ez s m below meth cz ls S hr hlocks hP hK hl
  have hl : lv_has ls 3 [(0, .int (nI a))] := hl
  refine lv_iconst (v := 0) S.1 S.2.1 dL_bits_0 (by decide) ?_
  refine lv_istore_n (lv' := [(1, .int 0), (0, .int (nI a))]) S.1 S.2.1 dL_bits_1 rfl hl (by decide) rfl (fun ls hl => ?_)
  refine lv_iconst (v := 0) S.1 S.2.1 dL_bits_2 (by decide) ?_
  refine lv_istore_n (lv' := [(2, .int 0), (1, .int 0), (0, .int (nI a))]) S.1 S.2.1 dL_bits_3 rfl hl (by decide) rfl (fun ls hl => ?_)
  have loop4 : ∀ (d : Nat) (k : Nat), (hk : k ≤ 12) → (13 - k) < d → ∀ ls : Array Slot, lv_has ls 3 [(2, .int (nI k)), (1, .int (nI (cnt (fun i => a.testBit i) k))), (0, .int (nI a))] → W pz l ez ({ frames := 0, cells := 0, slots := 0, locals := 0 }) s m ([.int (nI a)] : List Value).toArray below meth cz s.heap [] 0 0 (MQ below (vp_Si (fun r => r = nI (pop a))) ([.int (nI a)] : List Value).toArray s 0 0 (fun _ => False)) (F0 m 4 ls []) := by
    intro d
    induction d with
    | zero => intro k hk hd; exact absurd hd (Nat.not_lt_zero _)
    | succ d ih4 =>
      intro k hk hd ls hl
      refine lv_iload_n S.1 S.2.1 dL_bits_4 rfl (lv_at hl 0 rfl) ?_
      refine lv_bipush (v := 12) S.1 S.2.1 dL_bits_5 (by decide) ?_
      refine lv_icmp_ge (tgt := 24) S.1 S.2.1 dL_bits_7 (by decide) (fun c7 => ?_) (fun c7 => ?_)
      · skip
        refine lv_iload_n S.1 S.2.1 dL_bits_24 rfl (lv_at hl 1 rfl) ?_
        exact x_iretR S hr hlocks dL_bits_25 (by rw [e12 hk c7, pop12 ha])
      · skip
        have hk12 := k12 hk c7
        refine lv_iload_n S.1 S.2.1 dL_bits_10 rfl (lv_at hl 1 rfl) ?_
        refine lv_iload_n S.1 S.2.1 dL_bits_11 rfl (lv_at hl 2 rfl) ?_
        refine lv_iload_n S.1 S.2.1 dL_bits_12 rfl (lv_at hl 0 rfl) ?_
        refine lv_ishr S.1 S.2.1 dL_bits_13 ?_
        refine lv_iconst (v := 1) S.1 S.2.1 dL_bits_14 (by decide) ?_
        refine lv_iand S.1 S.2.1 dL_bits_15 ?_
        refine lv_iadd S.1 S.2.1 dL_bits_16 ?_
        refine W.eq (g2 := F0 m 17 ls [.int (nI (cnt (fun i => a.testBit i) (k + 1)))]) (by rw [cnt_bit ha hk12]) ?_
        refine lv_istore_n (lv' := [(1, .int (nI (cnt (fun i => a.testBit i) (k + 1)))), (2, .int (nI k)), (0, .int (nI a))]) S.1 S.2.1 dL_bits_17 rfl hl (by decide) rfl (fun ls hl => ?_)
        refine lv_iinc (v := nI (k + 1)) (lv' := [(2, .int (nI (k + 1))), (1, .int (nI (cnt (fun i => a.testBit i) (k + 1)))), (0, .int (nI a))]) S.1 S.2.1 dL_bits_18 hl (k := 1) rfl (show nI k + Int32.ofInt 1 = _ from nI_1 _) (by decide) rfl (fun ls hl => ?_)
        refine lv_goto (tgt := 4) S.1 S.2.1 dL_bits_21 (by decide) ?_
        exact ih4 (k + 1) (by omega) (by omega) ls (lv_sub hl [0, 1, 2] rfl)
  exact loop4 _ 0 (by omega) (Nat.lt_succ_self _) ls (lv_sub hl [0, 1, 2] rfl)
set_option maxHeartbeats 4000000 in
set_option maxRecDepth 100000 in
theorem c_L_digest (l : Launch) (g : xG) (hJ : xJ (xad g)) (E : Nat → va_E) {z : xS} (hX : sX g E z) (hv : vS z)  : Met l yL_digest wsL_digest ({ frames := 8, cells := 0, slots := 0, locals := 186 }) (xPc g [.ref (xad g 0)] E) (xQl g (fun r E1 => r = dgO (zn z) (zM z) (zn z) ∧ sX g E1 z)) 0 0 (xA (xad g)) := by
  refine x_met (ws' := _) (by decide) rfl (Nat.le_of_ble_eq_true rfl) ?_
  intro pz ez s m below meth cz ls S hr hlocks hP hK hl
  have hl : lv_has ls 5 [(0, .ref (xad g 0))] := hl
  have hS : va_S (xA (xad g)) s.heap s.heap [] := va_S.rf
  have h00 := hX.at0
  have hn := hv.1.1
  have hvM := hv.1.2
  refine lv_ldc2 S.1 S.2.1 S.2.2.2.1 (S.2.2.2.2 (.constantLong RL 9 157) (by decide +kernel)) dL_digest_0 ?_
  refine lv_aload_n S.1 S.2.1 dL_digest_3 rfl (lv_at hl 0 rfl) ?_
  refine lv_iconst (v := 1) S.1 S.2.1 dL_digest_4 (by decide) ?_
  refine x_qi (va_runV (As := [.int 1]) (rest := [.long 157]) S (c_X6_count l g hJ E hX hv 1) (cwV 1 S.2.2.2.2 gL_digest_X6_count rfl rfl rfl (by decide +kernel) ⟨Nat.le_of_ble_eq_true rfl, Nat.le_of_ble_eq_true rfl⟩) (x_preV hK hP h00 (by decide) rfl) rfl rfl hl.1 rfl (lv_room (Nat.le_of_ble_eq_true rfl)) dL_digest_5 ⟨Nat.le_of_ble_eq_true rfl, Nat.le_of_ble_eq_true rfl⟩) hS (fun r5 E1 H locs q5 hP hS => ?_)
  obtain ⟨q5, hX, -⟩ := q5
  have h00 := hX.at0
  obtain rfl : r5 = nI (mk (pU (zM z)) (zn z)) := v_ct1 q5
  refine lv_i2l (v := (nI (mk (pU (zM z)) (zn z))).toInt64) S.1 S.2.1 dL_digest_8 rfl ?_
  refine lv_ladd S.1 S.2.1 dL_digest_9 ?_
  refine W.eq (g2 := F0 m 10 ls [.long (dgO (zn z) (zM z) 0)]) (by rw [dgO_0]) ?_
  refine lv_lstore_n (lv' := [(1, .long (dgO (zn z) (zM z) 0)), (0, .ref (xad g 0))]) S.1 S.2.1 dL_digest_10 rfl hl (by decide) rfl (fun ls hl => ?_)
  refine lv_iconst (v := 0) S.1 S.2.1 dL_digest_11 (by decide) ?_
  refine lv_istore_n (lv' := [(3, .int 0), (1, .long (dgO (zn z) (zM z) 0)), (0, .ref (xad g 0))]) S.1 S.2.1 dL_digest_12 rfl hl (by decide) rfl (fun ls hl => ?_)
  have loop13 : ∀ (d : Nat) (p : Nat) (EL : Nat → va_E) (H : Heap) (locs : List Loc), (hp : p ≤ zn z) → (zn z + 1 - p) < d → (hX : sX g EL z) → (h00 : EL 0 = .inr (6, [.ref (xad g 1), .ref (xad g 10), .int (bI (zf z)), .ref (xad g 19), .ref (xad g 57), .ref (xad g 59), .ref (xad g 60), .ref (xad g 61), .ref (xad g 64)])) → xP g EL H → va_S (xA (xad g)) s.heap H locs → ∀ ls : Array Slot, lv_has ls 5 [(3, .int (nI p)), (1, .long (dgO (zn z) (zM z) p)), (0, .ref (xad g 0))] → W pz l ez ({ frames := 8, cells := 0, slots := 0, locals := 186 }) s m ([.ref (xad g 0)] : List Value).toArray below meth cz H locs 0 0 (MQ below (xQl g (fun r E1 => r = dgO (zn z) (zM z) (zn z) ∧ sX g E1 z)) ([.ref (xad g 0)] : List Value).toArray s 0 0 (xA (xad g))) (F0 m 13 ls []) := by
    intro d
    induction d with
    | zero => intro p EL H locs hp hd; exact absurd hd (Nat.not_lt_zero _)
    | succ d ih13 =>
      intro p EL H locs hp hd hX h00 hP hS ls hl
      refine lv_iload_n S.1 S.2.1 dL_digest_13 rfl (lv_at hl 0 rfl) ?_
      refine lv_aload_n S.1 S.2.1 dL_digest_14 rfl (lv_at hl 2 rfl) ?_
      refine lv_iconst (v := 0) S.1 S.2.1 dL_digest_15 (by decide) ?_
      refine x_qi (va_runV (As := [.int 0]) (rest := [.int (nI p)]) S (c_X6_count l g hJ EL hX hv 0) (cwV 1 S.2.2.2.2 gL_digest_X6_count rfl rfl rfl (by decide +kernel) ⟨Nat.le_of_ble_eq_true rfl, Nat.le_of_ble_eq_true rfl⟩) (x_preV hK hP h00 (by decide) rfl) rfl rfl hl.1 rfl (lv_room (Nat.le_of_ble_eq_true rfl)) dL_digest_16 ⟨Nat.le_of_ble_eq_true rfl, Nat.le_of_ble_eq_true rfl⟩) hS (fun r16 E1_1 H locs q16 hP hS => ?_)
      obtain ⟨q16, hX, -⟩ := q16
      have h00 := hX.at0
      obtain rfl : r16 = nI (zn z) := v_ct0 q16
      refine lv_icmp_ge (tgt := 59) S.1 S.2.1 dL_digest_19 (by decide) (fun c19 => ?_) (fun c19 => ?_)
      · skip
        refine lv_lload_n S.1 S.2.1 dL_digest_59 rfl (lv_at hl 1 rfl) ?_
        exact x_lret S hr hlocks hP hS dL_digest_60 (⟨by rw [kn_eq hn hp c19], hX⟩)
      · skip
        have hpn := kn_lt hn hp c19
        refine lv_iconst (v := 0) S.1 S.2.1 dL_digest_22 (by decide) ?_
        refine lv_istore (lv' := [(4, .int 0), (3, .int (nI p)), (1, .long (dgO (zn z) (zM z) p)), (0, .ref (xad g 0))]) S.1 S.2.1 dL_digest_23 hl (by decide) rfl (fun ls hl => ?_)
        have loop25 : ∀ (d : Nat) (w : Nat) (EL : Nat → va_E) (H : Heap) (locs : List Loc), (hw : w ≤ 7) → (8 - w) < d → (hX : sX g EL z) → (h00 : EL 0 = .inr (6, [.ref (xad g 1), .ref (xad g 10), .int (bI (zf z)), .ref (xad g 19), .ref (xad g 57), .ref (xad g 59), .ref (xad g 60), .ref (xad g 61), .ref (xad g 64)])) → xP g EL H → va_S (xA (xad g)) s.heap H locs → ∀ ls : Array Slot, lv_has ls 5 [(4, .int (nI w)), (1, .long (dgI (zM z) p (dgO (zn z) (zM z) p) w)), (3, .int (nI p)), (0, .ref (xad g 0))] → W pz l ez ({ frames := 8, cells := 0, slots := 0, locals := 186 }) s m ([.ref (xad g 0)] : List Value).toArray below meth cz H locs 0 0 (MQ below (xQl g (fun r E1 => r = dgO (zn z) (zM z) (zn z) ∧ sX g E1 z)) ([.ref (xad g 0)] : List Value).toArray s 0 0 (xA (xad g))) (F0 m 25 ls []) := by
          intro d
          induction d with
          | zero => intro w EL H locs hw hd; exact absurd hd (Nat.not_lt_zero _)
          | succ d ih25 =>
            intro w EL H locs hw hd hX h00 hP hS ls hl
            refine lv_iload S.1 S.2.1 dL_digest_25 (lv_at hl 0 rfl) ?_
            refine lv_bipush (v := 7) S.1 S.2.1 dL_digest_27 (by decide) ?_
            refine lv_icmp_ge (tgt := 53) S.1 S.2.1 dL_digest_29 (by decide) (fun c29 => ?_) (fun c29 => ?_)
            · skip
              obtain rfl := e7 hw c29
              refine lv_iinc (v := nI (p + 1)) (lv' := [(3, .int (nI (p + 1))), (4, .int (nI 7)), (1, .long (dgI (zM z) p (dgO (zn z) (zM z) p) 7)), (0, .ref (xad g 0))]) S.1 S.2.1 dL_digest_53 hl (k := 2) rfl (show nI p + Int32.ofInt 1 = _ from nI_1 _) (by decide) rfl (fun ls hl => ?_)
              refine lv_goto (tgt := 13) S.1 S.2.1 dL_digest_56 (by decide) ?_
              exact ih13 (p + 1) _ _ _ (by omega) (by omega) hX h00 hP hS ls (lv_sub hl [0, 2, 3] rfl)
            · skip
              have hw7 := k7 hw c29
              refine lv_ldc2 S.1 S.2.1 S.2.2.2.1 (S.2.2.2.2 (.constantLong RL 17 31) (by decide +kernel)) dL_digest_32 ?_
              refine lv_lload_n S.1 S.2.1 dL_digest_35 rfl (lv_at hl 1 rfl) ?_
              refine lv_lmul S.1 S.2.1 dL_digest_36 ?_
              refine lv_aload_n S.1 S.2.1 dL_digest_37 rfl (lv_at hl 3 rfl) ?_
              refine lv_iload_n S.1 S.2.1 dL_digest_38 rfl (lv_at hl 2 rfl) ?_
              refine lv_iload S.1 S.2.1 dL_digest_39 (lv_at hl 0 rfl) ?_
              refine x_qi (va_runV (As := [.int (nI p), .int (nI w)]) (rest := [.long (31 * (dgI (zM z) p (dgO (zn z) (zM z) p) w))]) S (c_X6_photo l g hJ EL hX hv (nI p) (nI w)) (cwV 2 S.2.2.2.2 gL_digest_X6_photo rfl rfl rfl (by decide +kernel) ⟨Nat.le_of_ble_eq_true rfl, Nat.le_of_ble_eq_true rfl⟩) (x_preV hK hP h00 (by decide) rfl) rfl rfl hl.1 rfl (lv_room (Nat.le_of_ble_eq_true rfl)) dL_digest_41 ⟨Nat.le_of_ble_eq_true rfl, Nat.le_of_ble_eq_true rfl⟩) hS (fun r41 E1_2 H locs q41 hP hS => ?_)
              obtain ⟨q41, hX, -⟩ := q41
              have h00 := hX.at0
              obtain rfl : r41 = phv (zM z) p w := v_ph hv hpn hw7 q41
              refine lv_i2l (v := (phv (zM z) p w).toInt64) S.1 S.2.1 dL_digest_44 rfl ?_
              refine lv_ladd S.1 S.2.1 dL_digest_45 ?_
              refine W.eq (g2 := F0 m 46 ls [.long (dgI (zM z) p (dgO (zn z) (zM z) p) (w + 1))]) (by rw [dgI_s]) ?_
              refine lv_lstore_n (lv' := [(1, .long (dgI (zM z) p (dgO (zn z) (zM z) p) (w + 1))), (4, .int (nI w)), (3, .int (nI p)), (0, .ref (xad g 0))]) S.1 S.2.1 dL_digest_46 rfl hl (by decide) rfl (fun ls hl => ?_)
              refine lv_iinc (v := nI (w + 1)) (lv' := [(4, .int (nI (w + 1))), (1, .long (dgI (zM z) p (dgO (zn z) (zM z) p) (w + 1))), (3, .int (nI p)), (0, .ref (xad g 0))]) S.1 S.2.1 dL_digest_47 hl (k := 1) rfl (show nI w + Int32.ofInt 1 = _ from nI_1 _) (by decide) rfl (fun ls hl => ?_)
              refine lv_goto (tgt := 25) S.1 S.2.1 dL_digest_50 (by decide) ?_
              exact ih25 (w + 1) _ _ _ (by omega) (by omega) hX h00 hP hS ls (lv_sub hl [0, 1, 2, 3] rfl)
        exact loop25 _ 0 _ _ _ (by omega) (Nat.lt_succ_self _) hX h00 hP hS ls (lv_sub hl [0, 2, 1, 3] rfl)
  exact loop13 _ 0 _ _ _ (Nat.zero_le _) (Nat.lt_succ_self _) hX h00 hP hS ls (lv_sub hl [0, 1, 2] rfl)
set_option maxHeartbeats 4000000 in
set_option maxRecDepth 100000 in
theorem c_L_photos (l : Launch) (g : xG) (hJ : xJ (xad g)) (E : Nat → va_E) {z : xS} (hX : sX g E z) (hv : vS z)  : Met l yL_photos wsL_photos ({ frames := 8, cells := 0, slots := 0, locals := 186 }) (xPc g [.ref (xad g 0)] E) (xQi g (fun r E1 => r = 1 ∧ sX g E1 z)) 0 0 (xA (xad g)) := by
  refine x_met (ws' := _) (by decide) rfl (Nat.le_of_ble_eq_true rfl) ?_
  intro pz ez s m below meth cz ls S hr hlocks hP hK hl
  have hl : lv_has ls 9 [(0, .ref (xad g 0))] := hl
  have hS : va_S (xA (xad g)) s.heap s.heap [] := va_S.rf
  have h00 := hX.at0
  have hn := hv.1.1
  have hvM := hv.1.2
  refine lv_aload_n S.1 S.2.1 dL_photos_0 rfl (lv_at hl 0 rfl) ?_
  refine lv_iconst (v := 0) S.1 S.2.1 dL_photos_1 (by decide) ?_
  refine x_qi (va_runV (As := [.int 0]) (rest := []) S (c_X6_count l g hJ E hX hv 0) (cwV 1 S.2.2.2.2 gL_photos_X6_count rfl rfl rfl (by decide +kernel) ⟨Nat.le_of_ble_eq_true rfl, Nat.le_of_ble_eq_true rfl⟩) (x_preV hK hP h00 (by decide) rfl) rfl rfl hl.1 rfl (lv_room (Nat.le_of_ble_eq_true rfl)) dL_photos_2 ⟨Nat.le_of_ble_eq_true rfl, Nat.le_of_ble_eq_true rfl⟩) hS (fun r2 E1 H locs q2 hP hS => ?_)
  obtain ⟨q2, hX, -⟩ := q2
  have h00 := hX.at0
  obtain rfl : r2 = nI (zn z) := v_ct0 q2
  refine lv_istore_n (lv' := [(1, .int (nI (zn z))), (0, .ref (xad g 0))]) S.1 S.2.1 dL_photos_5 rfl hl (by decide) rfl (fun ls hl => ?_)
  refine lv_iconst (v := (-1)) S.1 S.2.1 dL_photos_6 (by decide) ?_
  refine lv_istore_n (lv' := [(2, .int (-1)), (1, .int (nI (zn z))), (0, .ref (xad g 0))]) S.1 S.2.1 dL_photos_7 rfl hl (by decide) rfl (fun ls hl => ?_)
  refine lv_iconst (v := 0) S.1 S.2.1 dL_photos_8 (by decide) ?_
  refine lv_istore_n (lv' := [(3, .int 0), (2, .int (-1)), (1, .int (nI (zn z))), (0, .ref (xad g 0))]) S.1 S.2.1 dL_photos_9 rfl hl (by decide) rfl (fun ls hl => ?_)
  refine lv_iconst (v := 0) S.1 S.2.1 dL_photos_10 (by decide) ?_
  refine lv_istore (lv' := [(4, .int 0), (3, .int 0), (2, .int (-1)), (1, .int (nI (zn z))), (0, .ref (xad g 0))]) S.1 S.2.1 dL_photos_11 hl (by decide) rfl (fun ls hl => ?_)
  refine lv_iconst (v := 0) S.1 S.2.1 dL_photos_13 (by decide) ?_
  refine lv_istore (lv' := [(5, .int 0), (4, .int 0), (3, .int 0), (2, .int (-1)), (1, .int (nI (zn z))), (0, .ref (xad g 0))]) S.1 S.2.1 dL_photos_14 hl (by decide) rfl (fun ls hl => ?_)
  have loop16 : ∀ (d : Nat) (k : Nat) (la : Int32) (EL : Nat → va_E) (H : Heap) (locs : List Loc), (hk : k ≤ zn z) → (hla : ∀ q, k ≤ q → q < zn z → la < zM z 0 q) → (zn z + 1 - k) < d → (hX : sX g EL z) → (h00 : EL 0 = .inr (6, [.ref (xad g 1), .ref (xad g 10), .int (bI (zf z)), .ref (xad g 19), .ref (xad g 57), .ref (xad g 59), .ref (xad g 60), .ref (xad g 61), .ref (xad g 64)])) → xP g EL H → va_S (xA (xad g)) s.heap H locs → ∀ ls : Array Slot, lv_has ls 9 [(5, .int (nI k)), (2, .int la), (3, .int (nI (mk (pU (zM z)) k))), (4, .int (nI (mk (pK (zM z)) k))), (1, .int (nI (zn z))), (0, .ref (xad g 0))] → W pz l ez ({ frames := 8, cells := 0, slots := 0, locals := 186 }) s m ([.ref (xad g 0)] : List Value).toArray below meth cz H locs 0 0 (MQ below (xQi g (fun r E1 => r = 1 ∧ sX g E1 z)) ([.ref (xad g 0)] : List Value).toArray s 0 0 (xA (xad g))) (F0 m 16 ls []) := by
    intro d
    induction d with
    | zero => intro k la EL H locs hk hla hd; exact absurd hd (Nat.not_lt_zero _)
    | succ d ih16 =>
      intro k la EL H locs hk hla hd hX h00 hP hS ls hl
      refine lv_iload S.1 S.2.1 dL_photos_16 (lv_at hl 0 rfl) ?_
      refine lv_iload_n S.1 S.2.1 dL_photos_18 rfl (lv_at hl 4 rfl) ?_
      refine lv_icmp_ge (tgt := 172) S.1 S.2.1 dL_photos_19 (by decide) (fun c19 => ?_) (fun c19 => ?_)
      · skip
        have hke := kn_eq hn hk c19
        refine lv_aload_n S.1 S.2.1 dL_photos_172 rfl (lv_at hl 5 rfl) ?_
        refine lv_iconst (v := 1) S.1 S.2.1 dL_photos_173 (by decide) ?_
        refine x_qi (va_runV (As := [.int 1]) (rest := []) S (c_X6_count l g hJ EL hX hv 1) (cwV 1 S.2.2.2.2 gL_photos_X6_count rfl rfl rfl (by decide +kernel) ⟨Nat.le_of_ble_eq_true rfl, Nat.le_of_ble_eq_true rfl⟩) (x_preV hK hP h00 (by decide) rfl) rfl rfl hl.1 rfl (lv_room (Nat.le_of_ble_eq_true rfl)) dL_photos_174 ⟨Nat.le_of_ble_eq_true rfl, Nat.le_of_ble_eq_true rfl⟩) hS (fun r174 E1_1 H locs q174 hP hS => ?_)
        obtain ⟨q174, hX, -⟩ := q174
        have h00 := hX.at0
        obtain rfl : r174 = nI (mk (pU (zM z)) (zn z)) := v_ct1 q174
        refine lv_iload_n S.1 S.2.1 dL_photos_177 rfl (lv_at hl 2 rfl) ?_
        refine lv_icmp_ne (tgt := 225) S.1 S.2.1 dL_photos_178 (by decide) (fun c178 => ?_) (fun c178 => ?_)
        · skip
          exact absurd (by rw [hke]) c178
        · skip
          refine lv_aload_n S.1 S.2.1 dL_photos_181 rfl (lv_at hl 5 rfl) ?_
          refine lv_iconst (v := 2) S.1 S.2.1 dL_photos_182 (by decide) ?_
          refine x_qi (va_runV (As := [.int 2]) (rest := []) S (c_X6_count l g hJ E1_1 hX hv 2) (cwV 1 S.2.2.2.2 gL_photos_X6_count rfl rfl rfl (by decide +kernel) ⟨Nat.le_of_ble_eq_true rfl, Nat.le_of_ble_eq_true rfl⟩) (x_preV hK hP h00 (by decide) rfl) rfl rfl hl.1 rfl (lv_room (Nat.le_of_ble_eq_true rfl)) dL_photos_183 ⟨Nat.le_of_ble_eq_true rfl, Nat.le_of_ble_eq_true rfl⟩) hS (fun r183 E1_2 H locs q183 hP hS => ?_)
          obtain ⟨q183, hX, -⟩ := q183
          have h00 := hX.at0
          obtain rfl : r183 = nI (mk (pK (zM z)) (zn z)) := v_ct2 q183
          refine lv_iload S.1 S.2.1 dL_photos_186 (lv_at hl 3 rfl) ?_
          refine lv_icmp_ne (tgt := 225) S.1 S.2.1 dL_photos_188 (by decide) (fun c188 => ?_) (fun c188 => ?_)
          · skip
            exact absurd (by rw [hke]) c188
          · skip
            refine lv_aload_n S.1 S.2.1 dL_photos_191 rfl (lv_at hl 5 rfl) ?_
            refine lv_iload_n S.1 S.2.1 dL_photos_192 rfl (lv_at hl 4 rfl) ?_
            refine lv_iconst (v := 0) S.1 S.2.1 dL_photos_193 (by decide) ?_
            refine x_qi (va_runV (As := [.int (nI (zn z)), .int 0]) (rest := []) S (c_X6_photo l g hJ E1_2 hX hv (nI (zn z)) 0) (cwV 2 S.2.2.2.2 gL_photos_X6_photo rfl rfl rfl (by decide +kernel) ⟨Nat.le_of_ble_eq_true rfl, Nat.le_of_ble_eq_true rfl⟩) (x_preV hK hP h00 (by decide) rfl) rfl rfl hl.1 rfl (lv_room (Nat.le_of_ble_eq_true rfl)) dL_photos_194 ⟨Nat.le_of_ble_eq_true rfl, Nat.le_of_ble_eq_true rfl⟩) hS (fun r194 E1_3 H locs q194 hP hS => ?_)
            obtain ⟨q194, hX, -⟩ := q194
            have h00 := hX.at0
            obtain rfl : r194 = -1 := v_phN hn q194
            refine lv_iconst (v := (-1)) S.1 S.2.1 dL_photos_197 (by decide) ?_
            refine lv_icmp_ne (tgt := 225) S.1 S.2.1 dL_photos_198 (by decide) (fun c198 => ?_) (fun c198 => ?_)
            · skip
              exact absurd c198 (by decide)
            · skip
              refine lv_aload_n S.1 S.2.1 dL_photos_201 rfl (lv_at hl 5 rfl) ?_
              refine lv_iload_n S.1 S.2.1 dL_photos_202 rfl (lv_at hl 4 rfl) ?_
              refine lv_iconst (v := 0) S.1 S.2.1 dL_photos_203 (by decide) ?_
              refine lv_iconst (v := 1) S.1 S.2.1 dL_photos_204 (by decide) ?_
              refine x_qi (va_runV (As := [.int (nI (zn z)), .int 0, .int 1]) (rest := []) S (c_X6_hits l g hJ E1_3 hX hv (nI (zn z)) 0 1) (cwV 3 S.2.2.2.2 gL_photos_X6_hits rfl rfl rfl (by decide +kernel) ⟨Nat.le_of_ble_eq_true rfl, Nat.le_of_ble_eq_true rfl⟩) (x_preV hK hP h00 (by decide) rfl) rfl rfl hl.1 rfl (lv_room (Nat.le_of_ble_eq_true rfl)) dL_photos_205 ⟨Nat.le_of_ble_eq_true rfl, Nat.le_of_ble_eq_true rfl⟩) hS (fun r205 E1_4 H locs q205 hP hS => ?_)
              obtain ⟨q205, hX, -⟩ := q205
              have h00 := hX.at0
              obtain rfl : r205 = -1 := v_htN hn q205
              refine lv_iconst (v := (-1)) S.1 S.2.1 dL_photos_208 (by decide) ?_
              refine lv_icmp_ne (tgt := 225) S.1 S.2.1 dL_photos_209 (by decide) (fun c209 => ?_) (fun c209 => ?_)
              · skip
                exact absurd c209 (by decide)
              · skip
                refine lv_aload_n S.1 S.2.1 dL_photos_212 rfl (lv_at hl 5 rfl) ?_
                refine lv_iload_n S.1 S.2.1 dL_photos_213 rfl (lv_at hl 4 rfl) ?_
                refine x_qi (va_runV (As := [.int (nI (zn z))]) (rest := []) S (c_X6_fitsFrom l g hJ E1_4 hX hv (nI (zn z))) (cwV 1 S.2.2.2.2 gL_photos_X6_fitsFrom rfl rfl rfl (by decide +kernel) ⟨Nat.le_of_ble_eq_true rfl, Nat.le_of_ble_eq_true rfl⟩) (x_preV hK hP h00 (by decide) rfl) rfl rfl hl.1 rfl (lv_room (Nat.le_of_ble_eq_true rfl)) dL_photos_214 ⟨Nat.le_of_ble_eq_true rfl, Nat.le_of_ble_eq_true rfl⟩) hS (fun r214 E1_5 H locs q214 hP hS => ?_)
                obtain ⟨q214, hX, -⟩ := q214
                have h00 := hX.at0
                obtain rfl : r214 = -1 := v_ftN hn q214
                refine lv_iconst (v := (-1)) S.1 S.2.1 dL_photos_217 (by decide) ?_
                refine lv_icmp_ne (tgt := 225) S.1 S.2.1 dL_photos_218 (by decide) (fun c218 => ?_) (fun c218 => ?_)
                · skip
                  exact absurd c218 (by decide)
                · skip
                  refine lv_iconst (v := 1) S.1 S.2.1 dL_photos_221 (by decide) ?_
                  refine lv_goto (tgt := 226) S.1 S.2.1 dL_photos_222 (by decide) ?_
                  exact x_zret S hr hlocks hP hS dL_photos_226 rfl (⟨rfl, hX⟩)
      · skip
        have hkn := kn_lt hn hk c19
        refine lv_aload_n S.1 S.2.1 dL_photos_22 rfl (lv_at hl 5 rfl) ?_
        refine lv_iload S.1 S.2.1 dL_photos_23 (lv_at hl 0 rfl) ?_
        refine lv_iconst (v := 0) S.1 S.2.1 dL_photos_25 (by decide) ?_
        refine x_qi (va_runV (As := [.int (nI k), .int 0]) (rest := []) S (c_X6_photo l g hJ EL hX hv (nI k) 0) (cwV 2 S.2.2.2.2 gL_photos_X6_photo rfl rfl rfl (by decide +kernel) ⟨Nat.le_of_ble_eq_true rfl, Nat.le_of_ble_eq_true rfl⟩) (x_preV hK hP h00 (by decide) rfl) rfl rfl hl.1 rfl (lv_room (Nat.le_of_ble_eq_true rfl)) dL_photos_26 ⟨Nat.le_of_ble_eq_true rfl, Nat.le_of_ble_eq_true rfl⟩) hS (fun r26 E1_6 H locs q26 hP hS => ?_)
        obtain ⟨q26, hX, -⟩ := q26
        have h00 := hX.at0
        obtain rfl : r26 = (zM z) 0 k := v_ph0 hv hkn q26
        refine lv_istore (lv' := [(6, .int ((zM z) 0 k)), (5, .int (nI k)), (2, .int la), (3, .int (nI (mk (pU (zM z)) k))), (4, .int (nI (mk (pK (zM z)) k))), (1, .int (nI (zn z))), (0, .ref (xad g 0))]) S.1 S.2.1 dL_photos_29 hl (by decide) rfl (fun ls hl => ?_)
        refine lv_aload_n S.1 S.2.1 dL_photos_31 rfl (lv_at hl 6 rfl) ?_
        refine lv_iload S.1 S.2.1 dL_photos_32 (lv_at hl 1 rfl) ?_
        refine lv_bipush (v := 6) S.1 S.2.1 dL_photos_34 (by decide) ?_
        refine x_qi (va_runV (As := [.int (nI k), .int 6]) (rest := []) S (c_X6_photo l g hJ E1_6 hX hv (nI k) 6) (cwV 2 S.2.2.2.2 gL_photos_X6_photo rfl rfl rfl (by decide +kernel) ⟨Nat.le_of_ble_eq_true rfl, Nat.le_of_ble_eq_true rfl⟩) (x_preV hK hP h00 (by decide) rfl) rfl rfl hl.1 rfl (lv_room (Nat.le_of_ble_eq_true rfl)) dL_photos_36 ⟨Nat.le_of_ble_eq_true rfl, Nat.le_of_ble_eq_true rfl⟩) hS (fun r36 E1_7 H locs q36 hP hS => ?_)
        obtain ⟨q36, hX, -⟩ := q36
        have h00 := hX.at0
        obtain rfl : r36 = (zM z) 6 k := v_ph6 hv hkn q36
        refine lv_iconst (v := 1) S.1 S.2.1 dL_photos_39 (by decide) ?_
        refine lv_icmp_ne (tgt := 47) S.1 S.2.1 dL_photos_40 (by decide) (fun c40 => ?_) (fun c40 => ?_)
        · skip
          have hu := pU_0 hvM hkn c40
          refine lv_iconst (v := 0) S.1 S.2.1 dL_photos_47 (by decide) ?_
          refine lv_istore (lv' := [(7, .int 0), (6, .int ((zM z) 0 k)), (5, .int (nI k)), (2, .int la), (3, .int (nI (mk (pU (zM z)) k))), (4, .int (nI (mk (pK (zM z)) k))), (1, .int (nI (zn z))), (0, .ref (xad g 0))]) S.1 S.2.1 dL_photos_48 hl (by decide) rfl (fun ls hl => ?_)
          refine lv_aload_n S.1 S.2.1 dL_photos_50 rfl (lv_at hl 7 rfl) ?_
          refine lv_iload S.1 S.2.1 dL_photos_51 (lv_at hl 2 rfl) ?_
          refine lv_iconst (v := 4) S.1 S.2.1 dL_photos_53 (by decide) ?_
          refine x_qi (va_runV (As := [.int (nI k), .int 4]) (rest := []) S (c_X6_photo l g hJ E1_7 hX hv (nI k) 4) (cwV 2 S.2.2.2.2 gL_photos_X6_photo rfl rfl rfl (by decide +kernel) ⟨Nat.le_of_ble_eq_true rfl, Nat.le_of_ble_eq_true rfl⟩) (x_preV hK hP h00 (by decide) rfl) rfl rfl hl.1 rfl (lv_room (Nat.le_of_ble_eq_true rfl)) dL_photos_54 ⟨Nat.le_of_ble_eq_true rfl, Nat.le_of_ble_eq_true rfl⟩) hS (fun r54 E1_8 H locs q54 hP hS => ?_)
          obtain ⟨q54, hX, -⟩ := q54
          have h00 := hX.at0
          obtain rfl : r54 = an4 (zM z) k := v_ph4 hv hkn q54
          refine lv_istore (lv' := [(8, .int (an4 (zM z) k)), (7, .int 0), (6, .int ((zM z) 0 k)), (5, .int (nI k)), (2, .int la), (3, .int (nI (mk (pU (zM z)) k))), (4, .int (nI (mk (pK (zM z)) k))), (1, .int (nI (zn z))), (0, .ref (xad g 0))]) S.1 S.2.1 dL_photos_57 hl (by decide) rfl (fun ls hl => ?_)
          refine lv_iload_n S.1 S.2.1 dL_photos_59 rfl (lv_at hl 5 rfl) ?_
          refine lv_iload S.1 S.2.1 dL_photos_60 (lv_at hl 1 rfl) ?_
          refine lv_if_eq (tgt := 69) S.1 S.2.1 dL_photos_62 (by decide) (fun c62 => ?_) (fun c62 => ?_)
          · skip
            refine lv_iconst (v := 1) S.1 S.2.1 dL_photos_69 (by decide) ?_
            refine lv_iload S.1 S.2.1 dL_photos_70 (lv_at hl 3 rfl) ?_
            refine lv_ishl S.1 S.2.1 dL_photos_72 ?_
            refine lv_ior S.1 S.2.1 dL_photos_73 ?_
            refine W.eq (g2 := F0 m 74 ls [.int (nI (mk (pU (zM z)) (k + 1)))]) (by rw [mk_step (by omega) hu]) ?_
            refine lv_istore_n (lv' := [(3, .int (nI (mk (pU (zM z)) (k + 1)))), (8, .int (an4 (zM z) k)), (7, .int 0), (6, .int ((zM z) 0 k)), (5, .int (nI k)), (2, .int la), (4, .int (nI (mk (pK (zM z)) k))), (1, .int (nI (zn z))), (0, .ref (xad g 0))]) S.1 S.2.1 dL_photos_74 rfl hl (by decide) rfl (fun ls hl => ?_)
            refine lv_iload S.1 S.2.1 dL_photos_75 (lv_at hl 6 rfl) ?_
            refine lv_iload S.1 S.2.1 dL_photos_77 (lv_at hl 2 rfl) ?_
            refine lv_if_ne (tgt := 94) S.1 S.2.1 dL_photos_79 (by decide) (fun c79 => ?_) (fun c79 => ?_)
            · skip
              exact absurd c79 (by decide)
            · skip
              refine lv_iload S.1 S.2.1 dL_photos_82 (lv_at hl 1 rfl) ?_
              refine lv_if_lt (tgt := 94) S.1 S.2.1 dL_photos_84 (by decide) (fun c84 => ?_) (fun c84 => ?_)
              · skip
                have hkf : ¬ pK (zM z) k = true := pK_n hvM hkn c84
                refine lv_iconst (v := 0) S.1 S.2.1 dL_photos_94 (by decide) ?_
                refine lv_ior S.1 S.2.1 dL_photos_95 ?_
                refine W.eq (g2 := F0 m 96 ls [.int (nI (mk (pK (zM z)) (k + 1)))]) (by rw [mk_or0 hkf]) ?_
                refine lv_istore (lv' := [(4, .int (nI (mk (pK (zM z)) (k + 1)))), (3, .int (nI (mk (pU (zM z)) (k + 1)))), (8, .int (an4 (zM z) k)), (7, .int 0), (6, .int ((zM z) 0 k)), (5, .int (nI k)), (2, .int la), (1, .int (nI (zn z))), (0, .ref (xad g 0))]) S.1 S.2.1 dL_photos_96 hl (by decide) rfl (fun ls hl => ?_)
                refine lv_iload S.1 S.2.1 dL_photos_98 (lv_at hl 4 rfl) ?_
                refine lv_iload_n S.1 S.2.1 dL_photos_100 rfl (lv_at hl 6 rfl) ?_
                refine lv_icmp_le (tgt := 161) S.1 S.2.1 dL_photos_101 (by decide) (fun c101 => ?_) (fun c101 => ?_)
                · skip
                  exact absurd c101 (Int32.not_le.mpr (hla k (Nat.le_refl _) hkn))
                · skip
                  refine lv_iload S.1 S.2.1 dL_photos_104 (lv_at hl 2 rfl) ?_
                  refine lv_if_ge (tgt := 113) S.1 S.2.1 dL_photos_106 (by decide) (fun c106 => ?_) (fun c106 => ?_)
                  · skip
                    exact absurd c106 (Int32.not_le.mpr c84)
                  · skip
                    refine lv_iconst (v := 1) S.1 S.2.1 dL_photos_109 (by decide) ?_
                    refine lv_goto (tgt := 114) S.1 S.2.1 dL_photos_110 (by decide) ?_
                    refine lv_aload_n S.1 S.2.1 dL_photos_114 rfl (lv_at hl 8 rfl) ?_
                    refine lv_iload S.1 S.2.1 dL_photos_115 (lv_at hl 5 rfl) ?_
                    refine lv_iconst (v := 5) S.1 S.2.1 dL_photos_117 (by decide) ?_
                    refine x_qi (va_runV (As := [.int (nI k), .int 5]) (rest := [.int 1]) S (c_X6_photo l g hJ E1_8 hX hv (nI k) 5) (cwV 2 S.2.2.2.2 gL_photos_X6_photo rfl rfl rfl (by decide +kernel) ⟨Nat.le_of_ble_eq_true rfl, Nat.le_of_ble_eq_true rfl⟩) (x_preV hK hP h00 (by decide) rfl) rfl rfl hl.1 rfl (lv_room (Nat.le_of_ble_eq_true rfl)) dL_photos_118 ⟨Nat.le_of_ble_eq_true rfl, Nat.le_of_ble_eq_true rfl⟩) hS (fun r118 E1_9 H locs q118 hP hS => ?_)
                    obtain ⟨q118, hX, -⟩ := q118
                    have h00 := hX.at0
                    obtain rfl : r118 = an5 (zM z) k := v_ph5 hv hkn q118
                    refine lv_if_ge (tgt := 128) S.1 S.2.1 dL_photos_121 (by decide) (fun c121 => ?_) (fun c121 => ?_)
                    · skip
                      exact absurd ((an_sg hvM hkn).mpr c121) c106
                    · skip
                      refine lv_iconst (v := 1) S.1 S.2.1 dL_photos_124 (by decide) ?_
                      refine lv_goto (tgt := 129) S.1 S.2.1 dL_photos_125 (by decide) ?_
                      refine lv_icmp_ne (tgt := 161) S.1 S.2.1 dL_photos_129 (by decide) (fun c129 => ?_) (fun c129 => ?_)
                      · skip
                        exact absurd c129 (by decide)
                      · skip
                        refine lv_aload_n S.1 S.2.1 dL_photos_132 rfl (lv_at hl 8 rfl) ?_
                        refine lv_iload S.1 S.2.1 dL_photos_133 (lv_at hl 5 rfl) ?_
                        refine lv_bipush (v := 8) S.1 S.2.1 dL_photos_135 (by decide) ?_
                        refine x_qi (va_runV (As := [.int (nI k), .int 8]) (rest := []) S (c_X6_photo l g hJ E1_9 hX hv (nI k) 8) (cwV 2 S.2.2.2.2 gL_photos_X6_photo rfl rfl rfl (by decide +kernel) ⟨Nat.le_of_ble_eq_true rfl, Nat.le_of_ble_eq_true rfl⟩) (x_preV hK hP h00 (by decide) rfl) rfl rfl hl.1 rfl (lv_room (Nat.le_of_ble_eq_true rfl)) dL_photos_137 ⟨Nat.le_of_ble_eq_true rfl, Nat.le_of_ble_eq_true rfl⟩) hS (fun r137 E1_10 H locs q137 hP hS => ?_)
                        obtain ⟨q137, hX, -⟩ := q137
                        have h00 := hX.at0
                        obtain rfl : r137 = -2 := v_ph8 hkn q137
                        refine lv_bipush (v := (-2)) S.1 S.2.1 dL_photos_140 (by decide) ?_
                        refine lv_icmp_ne (tgt := 161) S.1 S.2.1 dL_photos_142 (by decide) (fun c142 => ?_) (fun c142 => ?_)
                        · skip
                          exact absurd c142 (by decide)
                        · skip
                          refine lv_iload S.1 S.2.1 dL_photos_145 (lv_at hl 3 rfl) ?_
                          refine lv_if_eq (tgt := 163) S.1 S.2.1 dL_photos_147 (by decide) (fun c147 => ?_) (fun c147 => ?_)
                          · skip
                            refine lv_iload S.1 S.2.1 dL_photos_163 (lv_at hl 4 rfl) ?_
                            refine lv_istore_n (lv' := [(2, .int ((zM z) 0 k)), (4, .int (nI (mk (pK (zM z)) (k + 1)))), (3, .int (nI (mk (pU (zM z)) (k + 1)))), (8, .int (an4 (zM z) k)), (7, .int 0), (6, .int ((zM z) 0 k)), (5, .int (nI k)), (1, .int (nI (zn z))), (0, .ref (xad g 0))]) S.1 S.2.1 dL_photos_165 rfl hl (by decide) rfl (fun ls hl => ?_)
                            refine lv_iinc (v := nI (k + 1)) (lv' := [(5, .int (nI (k + 1))), (2, .int ((zM z) 0 k)), (4, .int (nI (mk (pK (zM z)) (k + 1)))), (3, .int (nI (mk (pU (zM z)) (k + 1)))), (8, .int (an4 (zM z) k)), (7, .int 0), (6, .int ((zM z) 0 k)), (1, .int (nI (zn z))), (0, .ref (xad g 0))]) S.1 S.2.1 dL_photos_166 hl (k := 6) rfl (show nI k + Int32.ofInt 1 = _ from nI_1 _) (by decide) rfl (fun ls hl => ?_)
                            refine lv_goto (tgt := 16) S.1 S.2.1 dL_photos_169 (by decide) ?_
                            exact ih16 (k + 1) (zM z 0 k) _ _ _ (by omega) (fun q h1 h2 => v_lt hvM (by omega) h2) (by omega) hX h00 hP hS ls (lv_sub hl [0, 1, 3, 2, 7, 8] rfl)
                          · skip
                            exact absurd c147 (by decide)
              · skip
                have hkt := pK_t hvM hkn hu c84
                refine lv_iconst (v := 1) S.1 S.2.1 dL_photos_87 (by decide) ?_
                refine lv_iload S.1 S.2.1 dL_photos_88 (lv_at hl 4 rfl) ?_
                refine lv_ishl S.1 S.2.1 dL_photos_90 ?_
                refine lv_goto (tgt := 95) S.1 S.2.1 dL_photos_91 (by decide) ?_
                refine lv_ior S.1 S.2.1 dL_photos_95 ?_
                refine W.eq (g2 := F0 m 96 ls [.int (nI (mk (pK (zM z)) (k + 1)))]) (by rw [mk_step (by omega) hkt]) ?_
                refine lv_istore (lv' := [(4, .int (nI (mk (pK (zM z)) (k + 1)))), (3, .int (nI (mk (pU (zM z)) (k + 1)))), (8, .int (an4 (zM z) k)), (7, .int 0), (6, .int ((zM z) 0 k)), (5, .int (nI k)), (2, .int la), (1, .int (nI (zn z))), (0, .ref (xad g 0))]) S.1 S.2.1 dL_photos_96 hl (by decide) rfl (fun ls hl => ?_)
                refine lv_iload S.1 S.2.1 dL_photos_98 (lv_at hl 4 rfl) ?_
                refine lv_iload_n S.1 S.2.1 dL_photos_100 rfl (lv_at hl 6 rfl) ?_
                refine lv_icmp_le (tgt := 161) S.1 S.2.1 dL_photos_101 (by decide) (fun c101 => ?_) (fun c101 => ?_)
                · skip
                  exact absurd c101 (Int32.not_le.mpr (hla k (Nat.le_refl _) hkn))
                · skip
                  refine lv_iload S.1 S.2.1 dL_photos_104 (lv_at hl 2 rfl) ?_
                  refine lv_if_ge (tgt := 113) S.1 S.2.1 dL_photos_106 (by decide) (fun c106 => ?_) (fun c106 => ?_)
                  · skip
                    refine lv_iconst (v := 0) S.1 S.2.1 dL_photos_113 (by decide) ?_
                    refine lv_aload_n S.1 S.2.1 dL_photos_114 rfl (lv_at hl 8 rfl) ?_
                    refine lv_iload S.1 S.2.1 dL_photos_115 (lv_at hl 5 rfl) ?_
                    refine lv_iconst (v := 5) S.1 S.2.1 dL_photos_117 (by decide) ?_
                    refine x_qi (va_runV (As := [.int (nI k), .int 5]) (rest := [.int 0]) S (c_X6_photo l g hJ E1_8 hX hv (nI k) 5) (cwV 2 S.2.2.2.2 gL_photos_X6_photo rfl rfl rfl (by decide +kernel) ⟨Nat.le_of_ble_eq_true rfl, Nat.le_of_ble_eq_true rfl⟩) (x_preV hK hP h00 (by decide) rfl) rfl rfl hl.1 rfl (lv_room (Nat.le_of_ble_eq_true rfl)) dL_photos_118 ⟨Nat.le_of_ble_eq_true rfl, Nat.le_of_ble_eq_true rfl⟩) hS (fun r118 E1_11 H locs q118 hP hS => ?_)
                    obtain ⟨q118, hX, -⟩ := q118
                    have h00 := hX.at0
                    obtain rfl : r118 = an5 (zM z) k := v_ph5 hv hkn q118
                    refine lv_if_ge (tgt := 128) S.1 S.2.1 dL_photos_121 (by decide) (fun c121 => ?_) (fun c121 => ?_)
                    · skip
                      refine lv_iconst (v := 0) S.1 S.2.1 dL_photos_128 (by decide) ?_
                      refine lv_icmp_ne (tgt := 161) S.1 S.2.1 dL_photos_129 (by decide) (fun c129_1 => ?_) (fun c129_1 => ?_)
                      · skip
                        exact absurd c129_1 (by decide)
                      · skip
                        refine lv_aload_n S.1 S.2.1 dL_photos_132 rfl (lv_at hl 8 rfl) ?_
                        refine lv_iload S.1 S.2.1 dL_photos_133 (lv_at hl 5 rfl) ?_
                        refine lv_bipush (v := 8) S.1 S.2.1 dL_photos_135 (by decide) ?_
                        refine x_qi (va_runV (As := [.int (nI k), .int 8]) (rest := []) S (c_X6_photo l g hJ E1_11 hX hv (nI k) 8) (cwV 2 S.2.2.2.2 gL_photos_X6_photo rfl rfl rfl (by decide +kernel) ⟨Nat.le_of_ble_eq_true rfl, Nat.le_of_ble_eq_true rfl⟩) (x_preV hK hP h00 (by decide) rfl) rfl rfl hl.1 rfl (lv_room (Nat.le_of_ble_eq_true rfl)) dL_photos_137 ⟨Nat.le_of_ble_eq_true rfl, Nat.le_of_ble_eq_true rfl⟩) hS (fun r137 E1_12 H locs q137 hP hS => ?_)
                        obtain ⟨q137, hX, -⟩ := q137
                        have h00 := hX.at0
                        obtain rfl : r137 = -2 := v_ph8 hkn q137
                        refine lv_bipush (v := (-2)) S.1 S.2.1 dL_photos_140 (by decide) ?_
                        refine lv_icmp_ne (tgt := 161) S.1 S.2.1 dL_photos_142 (by decide) (fun c142_1 => ?_) (fun c142_1 => ?_)
                        · skip
                          exact absurd c142_1 (by decide)
                        · skip
                          refine lv_iload S.1 S.2.1 dL_photos_145 (lv_at hl 3 rfl) ?_
                          refine lv_if_eq (tgt := 163) S.1 S.2.1 dL_photos_147 (by decide) (fun c147_1 => ?_) (fun c147_1 => ?_)
                          · skip
                            refine lv_iload S.1 S.2.1 dL_photos_163 (lv_at hl 4 rfl) ?_
                            refine lv_istore_n (lv' := [(2, .int ((zM z) 0 k)), (4, .int (nI (mk (pK (zM z)) (k + 1)))), (3, .int (nI (mk (pU (zM z)) (k + 1)))), (8, .int (an4 (zM z) k)), (7, .int 0), (6, .int ((zM z) 0 k)), (5, .int (nI k)), (1, .int (nI (zn z))), (0, .ref (xad g 0))]) S.1 S.2.1 dL_photos_165 rfl hl (by decide) rfl (fun ls hl => ?_)
                            refine lv_iinc (v := nI (k + 1)) (lv' := [(5, .int (nI (k + 1))), (2, .int ((zM z) 0 k)), (4, .int (nI (mk (pK (zM z)) (k + 1)))), (3, .int (nI (mk (pU (zM z)) (k + 1)))), (8, .int (an4 (zM z) k)), (7, .int 0), (6, .int ((zM z) 0 k)), (1, .int (nI (zn z))), (0, .ref (xad g 0))]) S.1 S.2.1 dL_photos_166 hl (k := 6) rfl (show nI k + Int32.ofInt 1 = _ from nI_1 _) (by decide) rfl (fun ls hl => ?_)
                            refine lv_goto (tgt := 16) S.1 S.2.1 dL_photos_169 (by decide) ?_
                            exact ih16 (k + 1) (zM z 0 k) _ _ _ (by omega) (fun q h1 h2 => v_lt hvM (by omega) h2) (by omega) hX h00 hP hS ls (lv_sub hl [0, 1, 3, 2, 7, 8] rfl)
                          · skip
                            exact absurd c147_1 (by decide)
                    · skip
                      exact absurd ((an_sg hvM hkn).mp c106) c121
                  · skip
                    exact absurd (Int32.not_lt.mp c84) c106
          · skip
            exact absurd c62 (by decide)
        · skip
          have hu := pU_1 c40
          refine lv_iconst (v := 1) S.1 S.2.1 dL_photos_43 (by decide) ?_
          refine lv_goto (tgt := 48) S.1 S.2.1 dL_photos_44 (by decide) ?_
          refine lv_istore (lv' := [(7, .int 1), (6, .int ((zM z) 0 k)), (5, .int (nI k)), (2, .int la), (3, .int (nI (mk (pU (zM z)) k))), (4, .int (nI (mk (pK (zM z)) k))), (1, .int (nI (zn z))), (0, .ref (xad g 0))]) S.1 S.2.1 dL_photos_48 hl (by decide) rfl (fun ls hl => ?_)
          refine lv_aload_n S.1 S.2.1 dL_photos_50 rfl (lv_at hl 7 rfl) ?_
          refine lv_iload S.1 S.2.1 dL_photos_51 (lv_at hl 2 rfl) ?_
          refine lv_iconst (v := 4) S.1 S.2.1 dL_photos_53 (by decide) ?_
          refine x_qi (va_runV (As := [.int (nI k), .int 4]) (rest := []) S (c_X6_photo l g hJ E1_7 hX hv (nI k) 4) (cwV 2 S.2.2.2.2 gL_photos_X6_photo rfl rfl rfl (by decide +kernel) ⟨Nat.le_of_ble_eq_true rfl, Nat.le_of_ble_eq_true rfl⟩) (x_preV hK hP h00 (by decide) rfl) rfl rfl hl.1 rfl (lv_room (Nat.le_of_ble_eq_true rfl)) dL_photos_54 ⟨Nat.le_of_ble_eq_true rfl, Nat.le_of_ble_eq_true rfl⟩) hS (fun r54 E1_13 H locs q54 hP hS => ?_)
          obtain ⟨q54, hX, -⟩ := q54
          have h00 := hX.at0
          obtain rfl : r54 = an4 (zM z) k := v_ph4 hv hkn q54
          refine lv_istore (lv' := [(8, .int (an4 (zM z) k)), (7, .int 1), (6, .int ((zM z) 0 k)), (5, .int (nI k)), (2, .int la), (3, .int (nI (mk (pU (zM z)) k))), (4, .int (nI (mk (pK (zM z)) k))), (1, .int (nI (zn z))), (0, .ref (xad g 0))]) S.1 S.2.1 dL_photos_57 hl (by decide) rfl (fun ls hl => ?_)
          refine lv_iload_n S.1 S.2.1 dL_photos_59 rfl (lv_at hl 5 rfl) ?_
          refine lv_iload S.1 S.2.1 dL_photos_60 (lv_at hl 1 rfl) ?_
          refine lv_if_eq (tgt := 69) S.1 S.2.1 dL_photos_62 (by decide) (fun c62_1 => ?_) (fun c62_1 => ?_)
          · skip
            exact absurd c62_1 (by decide)
          · skip
            refine lv_iconst (v := 0) S.1 S.2.1 dL_photos_65 (by decide) ?_
            refine lv_goto (tgt := 73) S.1 S.2.1 dL_photos_66 (by decide) ?_
            refine lv_ior S.1 S.2.1 dL_photos_73 ?_
            refine W.eq (g2 := F0 m 74 ls [.int (nI (mk (pU (zM z)) (k + 1)))]) (by rw [mk_or0 hu]) ?_
            refine lv_istore_n (lv' := [(3, .int (nI (mk (pU (zM z)) (k + 1)))), (8, .int (an4 (zM z) k)), (7, .int 1), (6, .int ((zM z) 0 k)), (5, .int (nI k)), (2, .int la), (4, .int (nI (mk (pK (zM z)) k))), (1, .int (nI (zn z))), (0, .ref (xad g 0))]) S.1 S.2.1 dL_photos_74 rfl hl (by decide) rfl (fun ls hl => ?_)
            refine lv_iload S.1 S.2.1 dL_photos_75 (lv_at hl 6 rfl) ?_
            refine lv_iload S.1 S.2.1 dL_photos_77 (lv_at hl 2 rfl) ?_
            refine lv_if_ne (tgt := 94) S.1 S.2.1 dL_photos_79 (by decide) (fun c79_1 => ?_) (fun c79_1 => ?_)
            · skip
              have hkf : ¬ pK (zM z) k = true := pK_1 c40
              refine lv_iconst (v := 0) S.1 S.2.1 dL_photos_94 (by decide) ?_
              refine lv_ior S.1 S.2.1 dL_photos_95 ?_
              refine W.eq (g2 := F0 m 96 ls [.int (nI (mk (pK (zM z)) (k + 1)))]) (by rw [mk_or0 hkf]) ?_
              refine lv_istore (lv' := [(4, .int (nI (mk (pK (zM z)) (k + 1)))), (3, .int (nI (mk (pU (zM z)) (k + 1)))), (8, .int (an4 (zM z) k)), (7, .int 1), (6, .int ((zM z) 0 k)), (5, .int (nI k)), (2, .int la), (1, .int (nI (zn z))), (0, .ref (xad g 0))]) S.1 S.2.1 dL_photos_96 hl (by decide) rfl (fun ls hl => ?_)
              refine lv_iload S.1 S.2.1 dL_photos_98 (lv_at hl 4 rfl) ?_
              refine lv_iload_n S.1 S.2.1 dL_photos_100 rfl (lv_at hl 6 rfl) ?_
              refine lv_icmp_le (tgt := 161) S.1 S.2.1 dL_photos_101 (by decide) (fun c101 => ?_) (fun c101 => ?_)
              · skip
                exact absurd c101 (Int32.not_le.mpr (hla k (Nat.le_refl _) hkn))
              · skip
                refine lv_iload S.1 S.2.1 dL_photos_104 (lv_at hl 2 rfl) ?_
                refine lv_if_ge (tgt := 113) S.1 S.2.1 dL_photos_106 (by decide) (fun c106 => ?_) (fun c106 => ?_)
                · skip
                  refine lv_iconst (v := 0) S.1 S.2.1 dL_photos_113 (by decide) ?_
                  refine lv_aload_n S.1 S.2.1 dL_photos_114 rfl (lv_at hl 8 rfl) ?_
                  refine lv_iload S.1 S.2.1 dL_photos_115 (lv_at hl 5 rfl) ?_
                  refine lv_iconst (v := 5) S.1 S.2.1 dL_photos_117 (by decide) ?_
                  refine x_qi (va_runV (As := [.int (nI k), .int 5]) (rest := [.int 0]) S (c_X6_photo l g hJ E1_13 hX hv (nI k) 5) (cwV 2 S.2.2.2.2 gL_photos_X6_photo rfl rfl rfl (by decide +kernel) ⟨Nat.le_of_ble_eq_true rfl, Nat.le_of_ble_eq_true rfl⟩) (x_preV hK hP h00 (by decide) rfl) rfl rfl hl.1 rfl (lv_room (Nat.le_of_ble_eq_true rfl)) dL_photos_118 ⟨Nat.le_of_ble_eq_true rfl, Nat.le_of_ble_eq_true rfl⟩) hS (fun r118 E1_14 H locs q118 hP hS => ?_)
                  obtain ⟨q118, hX, -⟩ := q118
                  have h00 := hX.at0
                  obtain rfl : r118 = an5 (zM z) k := v_ph5 hv hkn q118
                  refine lv_if_ge (tgt := 128) S.1 S.2.1 dL_photos_121 (by decide) (fun c121 => ?_) (fun c121 => ?_)
                  · skip
                    refine lv_iconst (v := 0) S.1 S.2.1 dL_photos_128 (by decide) ?_
                    refine lv_icmp_ne (tgt := 161) S.1 S.2.1 dL_photos_129 (by decide) (fun c129_2 => ?_) (fun c129_2 => ?_)
                    · skip
                      exact absurd c129_2 (by decide)
                    · skip
                      refine lv_aload_n S.1 S.2.1 dL_photos_132 rfl (lv_at hl 8 rfl) ?_
                      refine lv_iload S.1 S.2.1 dL_photos_133 (lv_at hl 5 rfl) ?_
                      refine lv_bipush (v := 8) S.1 S.2.1 dL_photos_135 (by decide) ?_
                      refine x_qi (va_runV (As := [.int (nI k), .int 8]) (rest := []) S (c_X6_photo l g hJ E1_14 hX hv (nI k) 8) (cwV 2 S.2.2.2.2 gL_photos_X6_photo rfl rfl rfl (by decide +kernel) ⟨Nat.le_of_ble_eq_true rfl, Nat.le_of_ble_eq_true rfl⟩) (x_preV hK hP h00 (by decide) rfl) rfl rfl hl.1 rfl (lv_room (Nat.le_of_ble_eq_true rfl)) dL_photos_137 ⟨Nat.le_of_ble_eq_true rfl, Nat.le_of_ble_eq_true rfl⟩) hS (fun r137 E1_15 H locs q137 hP hS => ?_)
                      obtain ⟨q137, hX, -⟩ := q137
                      have h00 := hX.at0
                      obtain rfl : r137 = -2 := v_ph8 hkn q137
                      refine lv_bipush (v := (-2)) S.1 S.2.1 dL_photos_140 (by decide) ?_
                      refine lv_icmp_ne (tgt := 161) S.1 S.2.1 dL_photos_142 (by decide) (fun c142_2 => ?_) (fun c142_2 => ?_)
                      · skip
                        exact absurd c142_2 (by decide)
                      · skip
                        refine lv_iload S.1 S.2.1 dL_photos_145 (lv_at hl 3 rfl) ?_
                        refine lv_if_eq (tgt := 163) S.1 S.2.1 dL_photos_147 (by decide) (fun c147_2 => ?_) (fun c147_2 => ?_)
                        · skip
                          exact absurd c147_2 (by decide)
                        · skip
                          refine lv_aload_n S.1 S.2.1 dL_photos_150 rfl (lv_at hl 8 rfl) ?_
                          refine lv_iload S.1 S.2.1 dL_photos_151 (lv_at hl 5 rfl) ?_
                          refine x_qi (va_runV (As := [.int (nI k)]) (rest := []) S (c_X6_fitsFrom l g hJ E1_15 hX hv (nI k)) (cwV 1 S.2.2.2.2 gL_photos_X6_fitsFrom rfl rfl rfl (by decide +kernel) ⟨Nat.le_of_ble_eq_true rfl, Nat.le_of_ble_eq_true rfl⟩) (x_preV hK hP h00 (by decide) rfl) rfl rfl hl.1 rfl (lv_room (Nat.le_of_ble_eq_true rfl)) dL_photos_153 ⟨Nat.le_of_ble_eq_true rfl, Nat.le_of_ble_eq_true rfl⟩) hS (fun r153 E1_16 H locs q153 hP hS => ?_)
                          obtain ⟨q153, hX, -⟩ := q153
                          have h00 := hX.at0
                          obtain rfl : r153 = -4 := v_ftA hv hkn hu q153
                          refine lv_bipush (v := (-4)) S.1 S.2.1 dL_photos_156 (by decide) ?_
                          refine lv_icmp_eq (tgt := 163) S.1 S.2.1 dL_photos_158 (by decide) (fun c158 => ?_) (fun c158 => ?_)
                          · skip
                            refine lv_iload S.1 S.2.1 dL_photos_163 (lv_at hl 4 rfl) ?_
                            refine lv_istore_n (lv' := [(2, .int ((zM z) 0 k)), (4, .int (nI (mk (pK (zM z)) (k + 1)))), (3, .int (nI (mk (pU (zM z)) (k + 1)))), (8, .int (an4 (zM z) k)), (7, .int 1), (6, .int ((zM z) 0 k)), (5, .int (nI k)), (1, .int (nI (zn z))), (0, .ref (xad g 0))]) S.1 S.2.1 dL_photos_165 rfl hl (by decide) rfl (fun ls hl => ?_)
                            refine lv_iinc (v := nI (k + 1)) (lv' := [(5, .int (nI (k + 1))), (2, .int ((zM z) 0 k)), (4, .int (nI (mk (pK (zM z)) (k + 1)))), (3, .int (nI (mk (pU (zM z)) (k + 1)))), (8, .int (an4 (zM z) k)), (7, .int 1), (6, .int ((zM z) 0 k)), (1, .int (nI (zn z))), (0, .ref (xad g 0))]) S.1 S.2.1 dL_photos_166 hl (k := 6) rfl (show nI k + Int32.ofInt 1 = _ from nI_1 _) (by decide) rfl (fun ls hl => ?_)
                            refine lv_goto (tgt := 16) S.1 S.2.1 dL_photos_169 (by decide) ?_
                            exact ih16 (k + 1) (zM z 0 k) _ _ _ (by omega) (fun q h1 h2 => v_lt hvM (by omega) h2) (by omega) hX h00 hP hS ls (lv_sub hl [0, 1, 3, 2, 7, 8] rfl)
                          · skip
                            exact absurd c158 (by decide)
                  · skip
                    exact absurd ((an_sg hvM hkn).mp c106) c121
                · skip
                  refine lv_iconst (v := 1) S.1 S.2.1 dL_photos_109 (by decide) ?_
                  refine lv_goto (tgt := 114) S.1 S.2.1 dL_photos_110 (by decide) ?_
                  refine lv_aload_n S.1 S.2.1 dL_photos_114 rfl (lv_at hl 8 rfl) ?_
                  refine lv_iload S.1 S.2.1 dL_photos_115 (lv_at hl 5 rfl) ?_
                  refine lv_iconst (v := 5) S.1 S.2.1 dL_photos_117 (by decide) ?_
                  refine x_qi (va_runV (As := [.int (nI k), .int 5]) (rest := [.int 1]) S (c_X6_photo l g hJ E1_13 hX hv (nI k) 5) (cwV 2 S.2.2.2.2 gL_photos_X6_photo rfl rfl rfl (by decide +kernel) ⟨Nat.le_of_ble_eq_true rfl, Nat.le_of_ble_eq_true rfl⟩) (x_preV hK hP h00 (by decide) rfl) rfl rfl hl.1 rfl (lv_room (Nat.le_of_ble_eq_true rfl)) dL_photos_118 ⟨Nat.le_of_ble_eq_true rfl, Nat.le_of_ble_eq_true rfl⟩) hS (fun r118 E1_17 H locs q118 hP hS => ?_)
                  obtain ⟨q118, hX, -⟩ := q118
                  have h00 := hX.at0
                  obtain rfl : r118 = an5 (zM z) k := v_ph5 hv hkn q118
                  refine lv_if_ge (tgt := 128) S.1 S.2.1 dL_photos_121 (by decide) (fun c121 => ?_) (fun c121 => ?_)
                  · skip
                    exact absurd ((an_sg hvM hkn).mpr c121) c106
                  · skip
                    refine lv_iconst (v := 1) S.1 S.2.1 dL_photos_124 (by decide) ?_
                    refine lv_goto (tgt := 129) S.1 S.2.1 dL_photos_125 (by decide) ?_
                    refine lv_icmp_ne (tgt := 161) S.1 S.2.1 dL_photos_129 (by decide) (fun c129_3 => ?_) (fun c129_3 => ?_)
                    · skip
                      exact absurd c129_3 (by decide)
                    · skip
                      refine lv_aload_n S.1 S.2.1 dL_photos_132 rfl (lv_at hl 8 rfl) ?_
                      refine lv_iload S.1 S.2.1 dL_photos_133 (lv_at hl 5 rfl) ?_
                      refine lv_bipush (v := 8) S.1 S.2.1 dL_photos_135 (by decide) ?_
                      refine x_qi (va_runV (As := [.int (nI k), .int 8]) (rest := []) S (c_X6_photo l g hJ E1_17 hX hv (nI k) 8) (cwV 2 S.2.2.2.2 gL_photos_X6_photo rfl rfl rfl (by decide +kernel) ⟨Nat.le_of_ble_eq_true rfl, Nat.le_of_ble_eq_true rfl⟩) (x_preV hK hP h00 (by decide) rfl) rfl rfl hl.1 rfl (lv_room (Nat.le_of_ble_eq_true rfl)) dL_photos_137 ⟨Nat.le_of_ble_eq_true rfl, Nat.le_of_ble_eq_true rfl⟩) hS (fun r137 E1_18 H locs q137 hP hS => ?_)
                      obtain ⟨q137, hX, -⟩ := q137
                      have h00 := hX.at0
                      obtain rfl : r137 = -2 := v_ph8 hkn q137
                      refine lv_bipush (v := (-2)) S.1 S.2.1 dL_photos_140 (by decide) ?_
                      refine lv_icmp_ne (tgt := 161) S.1 S.2.1 dL_photos_142 (by decide) (fun c142_3 => ?_) (fun c142_3 => ?_)
                      · skip
                        exact absurd c142_3 (by decide)
                      · skip
                        refine lv_iload S.1 S.2.1 dL_photos_145 (lv_at hl 3 rfl) ?_
                        refine lv_if_eq (tgt := 163) S.1 S.2.1 dL_photos_147 (by decide) (fun c147_3 => ?_) (fun c147_3 => ?_)
                        · skip
                          exact absurd c147_3 (by decide)
                        · skip
                          refine lv_aload_n S.1 S.2.1 dL_photos_150 rfl (lv_at hl 8 rfl) ?_
                          refine lv_iload S.1 S.2.1 dL_photos_151 (lv_at hl 5 rfl) ?_
                          refine x_qi (va_runV (As := [.int (nI k)]) (rest := []) S (c_X6_fitsFrom l g hJ E1_18 hX hv (nI k)) (cwV 1 S.2.2.2.2 gL_photos_X6_fitsFrom rfl rfl rfl (by decide +kernel) ⟨Nat.le_of_ble_eq_true rfl, Nat.le_of_ble_eq_true rfl⟩) (x_preV hK hP h00 (by decide) rfl) rfl rfl hl.1 rfl (lv_room (Nat.le_of_ble_eq_true rfl)) dL_photos_153 ⟨Nat.le_of_ble_eq_true rfl, Nat.le_of_ble_eq_true rfl⟩) hS (fun r153 E1_19 H locs q153 hP hS => ?_)
                          obtain ⟨q153, hX, -⟩ := q153
                          have h00 := hX.at0
                          obtain rfl : r153 = -4 := v_ftA hv hkn hu q153
                          refine lv_bipush (v := (-4)) S.1 S.2.1 dL_photos_156 (by decide) ?_
                          refine lv_icmp_eq (tgt := 163) S.1 S.2.1 dL_photos_158 (by decide) (fun c158_1 => ?_) (fun c158_1 => ?_)
                          · skip
                            refine lv_iload S.1 S.2.1 dL_photos_163 (lv_at hl 4 rfl) ?_
                            refine lv_istore_n (lv' := [(2, .int ((zM z) 0 k)), (4, .int (nI (mk (pK (zM z)) (k + 1)))), (3, .int (nI (mk (pU (zM z)) (k + 1)))), (8, .int (an4 (zM z) k)), (7, .int 1), (6, .int ((zM z) 0 k)), (5, .int (nI k)), (1, .int (nI (zn z))), (0, .ref (xad g 0))]) S.1 S.2.1 dL_photos_165 rfl hl (by decide) rfl (fun ls hl => ?_)
                            refine lv_iinc (v := nI (k + 1)) (lv' := [(5, .int (nI (k + 1))), (2, .int ((zM z) 0 k)), (4, .int (nI (mk (pK (zM z)) (k + 1)))), (3, .int (nI (mk (pU (zM z)) (k + 1)))), (8, .int (an4 (zM z) k)), (7, .int 1), (6, .int ((zM z) 0 k)), (1, .int (nI (zn z))), (0, .ref (xad g 0))]) S.1 S.2.1 dL_photos_166 hl (k := 6) rfl (show nI k + Int32.ofInt 1 = _ from nI_1 _) (by decide) rfl (fun ls hl => ?_)
                            refine lv_goto (tgt := 16) S.1 S.2.1 dL_photos_169 (by decide) ?_
                            exact ih16 (k + 1) (zM z 0 k) _ _ _ (by omega) (fun q h1 h2 => v_lt hvM (by omega) h2) (by omega) hX h00 hP hS ls (lv_sub hl [0, 1, 3, 2, 7, 8] rfl)
                          · skip
                            exact absurd c158_1 (by decide)
            · skip
              exact absurd c79_1 (by decide)
  exact loop16 _ 0 (-1) _ _ _ (Nat.zero_le _) (fun q _ h => v_m1 hvM h) (Nat.lt_succ_self _) hX h00 hP hS ls (lv_sub hl [0, 3, 2, 1, 4, 5] rfl)
