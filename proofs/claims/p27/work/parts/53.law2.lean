/-! THE LAW: arcs -/
theorem hit_i {M : Nat → Nat → Int32} {n a b c p : Nat} (hv : vld n M) (hn : n ≤ 10) (hp : p < n) (h1 : a < b) (h2 : b < c) (hc : c < n) (hu : pU M p = true) (h : p = a ∨ p = b ∨ p = c) : (nI (mk (fun q => pU M q && hitB M a b c q) n) >>> (nI p &&& 31)) &&& 1 = 1 := by
  rw [hit_at hn hp, hu, hit_own hv h1 h2 hc h]
  rfl
set_option maxHeartbeats 4000000 in
set_option maxRecDepth 100000 in
theorem c_L_arcs (l : Launch) (g : xG) (hJ : xJ (xad g)) (E : Nat → va_E) {z : xS} (hX : sX g E z) (hv : vS z) {i j k : Nat} (hi : i < zn z) (hj : j < zn z) (hk : k < zn z)  : Met l yL_arcs wsL_arcs ({ frames := 8, cells := 0, slots := 0, locals := 186 }) (xPc g [.ref (xad g 0), .int (nI i), .int (nI j), .int (nI k)] E) (xQi g (fun r E1 => r = 1 ∧ sX g E1 z)) 0 0 (xA (xad g)) := by
  refine x_met (ws' := _) (by decide) rfl (Nat.le_of_ble_eq_true rfl) ?_
  intro pz ez s m below meth cz ls S hr hlocks hP hK hl
  have hl : lv_has ls 14 [(0, .ref (xad g 0)), (1, .int (nI i)), (2, .int (nI j)), (3, .int (nI k))] := hl
  have hS : va_S (xA (xad g)) s.heap s.heap [] := va_S.rf
  have h00 := hX.at0
  have hn := hv.1.1
  have hvM := hv.1.2
  refine lv_iload_n S.1 S.2.1 dL_arcs_0 rfl (lv_at hl 1 rfl) ?_
  refine lv_iload_n S.1 S.2.1 dL_arcs_1 rfl (lv_at hl 2 rfl) ?_
  refine lv_icmp_eq (tgt := 15) S.1 S.2.1 dL_arcs_2 (by decide) (fun c2 => ?_) (fun c2 => ?_)
  · skip
    have hsm : i = j ∨ i = k ∨ j = k := Or.inl (heldU hn hi hj c2)
    refine lv_aload_n S.1 S.2.1 dL_arcs_15 rfl (lv_at hl 0 rfl) ?_
    refine lv_iload_n S.1 S.2.1 dL_arcs_16 rfl (lv_at hl 1 rfl) ?_
    refine lv_iload_n S.1 S.2.1 dL_arcs_17 rfl (lv_at hl 2 rfl) ?_
    refine lv_iload_n S.1 S.2.1 dL_arcs_18 rfl (lv_at hl 3 rfl) ?_
    refine x_qi (va_runV (As := [.int (nI i), .int (nI j), .int (nI k)]) (rest := []) S (c_X6_hits l g hJ E hX hv (nI i) (nI j) (nI k)) (cwV 3 S.2.2.2.2 gL_arcs_X6_hits rfl rfl rfl (by decide +kernel) ⟨Nat.le_of_ble_eq_true rfl, Nat.le_of_ble_eq_true rfl⟩) (x_preV hK hP h00 (by decide) rfl) rfl rfl hl.1 rfl (lv_room (Nat.le_of_ble_eq_true rfl)) dL_arcs_19 ⟨Nat.le_of_ble_eq_true rfl, Nat.le_of_ble_eq_true rfl⟩) hS (fun r19 E1 H locs q19 hP hS => ?_)
    obtain ⟨q19, hX, -⟩ := q19
    have h00 := hX.at0
    obtain rfl : r19 = -2 := v_ht2 hv hi hj hk hsm q19
    refine lv_bipush (v := (-2)) S.1 S.2.1 dL_arcs_22 (by decide) ?_
    refine lv_icmp_ne (tgt := 48) S.1 S.2.1 dL_arcs_24 (by decide) (fun c24 => ?_) (fun c24 => ?_)
    · skip
      exact absurd c24 (by decide)
    · skip
      refine lv_aload_n S.1 S.2.1 dL_arcs_27 rfl (lv_at hl 0 rfl) ?_
      refine lv_iload_n S.1 S.2.1 dL_arcs_28 rfl (lv_at hl 1 rfl) ?_
      refine lv_iload_n S.1 S.2.1 dL_arcs_29 rfl (lv_at hl 2 rfl) ?_
      refine lv_iload_n S.1 S.2.1 dL_arcs_30 rfl (lv_at hl 3 rfl) ?_
      refine lv_iconst (v := 0) S.1 S.2.1 dL_arcs_31 (by decide) ?_
      refine lv_iconst (v := 0) S.1 S.2.1 dL_arcs_32 (by decide) ?_
      refine lv_iconst (v := 0) S.1 S.2.1 dL_arcs_33 (by decide) ?_
      refine x_ql (va_runV (As := [.int (nI i), .int (nI j), .int (nI k), .int 0, .int 0, .int 0]) (rest := []) S (c_X6_arc l g hJ E1 hX hv (nI i) (nI j) (nI k) 0 0 0) (cwV 6 S.2.2.2.2 gL_arcs_X6_arc rfl rfl rfl (by decide +kernel) ⟨Nat.le_of_ble_eq_true rfl, Nat.le_of_ble_eq_true rfl⟩) (x_preV hK hP h00 (by decide) rfl) rfl rfl hl.1 rfl (lv_room (Nat.le_of_ble_eq_true rfl)) dL_arcs_34 ⟨Nat.le_of_ble_eq_true rfl, Nat.le_of_ble_eq_true rfl⟩) hS (fun r34 E1_1 H locs q34 hP hS => ?_)
      obtain ⟨q34, hX, -⟩ := q34
      have h00 := hX.at0
      obtain rfl : r34 = -2 := v_ar2 hv hi hj hk (Or.inl hsm) q34
      refine lv_ldc2 S.1 S.2.1 S.2.2.2.1 (S.2.2.2.2 (.constantLong RL 36 (-2)) (by decide +kernel)) dL_arcs_37 ?_
      refine W.lcmp S.1 S.2.1 dL_arcs_40 ?_
      refine lv_if_ne (tgt := 48) S.1 S.2.1 dL_arcs_41 (by decide) (fun c41 => ?_) (fun c41 => ?_)
      · skip
        exact absurd ((lg_cmp_eq _ _).mpr rfl) c41
      · skip
        refine lv_iconst (v := 1) S.1 S.2.1 dL_arcs_44 (by decide) ?_
        refine lv_goto (tgt := 49) S.1 S.2.1 dL_arcs_45 (by decide) ?_
        exact x_zret S hr hlocks hP hS dL_arcs_49 rfl (⟨rfl, hX⟩)
  · skip
    refine lv_iload_n S.1 S.2.1 dL_arcs_5 rfl (lv_at hl 1 rfl) ?_
    refine lv_iload_n S.1 S.2.1 dL_arcs_6 rfl (lv_at hl 3 rfl) ?_
    refine lv_icmp_eq (tgt := 15) S.1 S.2.1 dL_arcs_7 (by decide) (fun c7 => ?_) (fun c7 => ?_)
    · skip
      have hsm : i = j ∨ i = k ∨ j = k := Or.inr (Or.inl (heldU hn hi hk c7))
      refine lv_aload_n S.1 S.2.1 dL_arcs_15 rfl (lv_at hl 0 rfl) ?_
      refine lv_iload_n S.1 S.2.1 dL_arcs_16 rfl (lv_at hl 1 rfl) ?_
      refine lv_iload_n S.1 S.2.1 dL_arcs_17 rfl (lv_at hl 2 rfl) ?_
      refine lv_iload_n S.1 S.2.1 dL_arcs_18 rfl (lv_at hl 3 rfl) ?_
      refine x_qi (va_runV (As := [.int (nI i), .int (nI j), .int (nI k)]) (rest := []) S (c_X6_hits l g hJ E hX hv (nI i) (nI j) (nI k)) (cwV 3 S.2.2.2.2 gL_arcs_X6_hits rfl rfl rfl (by decide +kernel) ⟨Nat.le_of_ble_eq_true rfl, Nat.le_of_ble_eq_true rfl⟩) (x_preV hK hP h00 (by decide) rfl) rfl rfl hl.1 rfl (lv_room (Nat.le_of_ble_eq_true rfl)) dL_arcs_19 ⟨Nat.le_of_ble_eq_true rfl, Nat.le_of_ble_eq_true rfl⟩) hS (fun r19 E1_2 H locs q19 hP hS => ?_)
      obtain ⟨q19, hX, -⟩ := q19
      have h00 := hX.at0
      obtain rfl : r19 = -2 := v_ht2 hv hi hj hk hsm q19
      refine lv_bipush (v := (-2)) S.1 S.2.1 dL_arcs_22 (by decide) ?_
      refine lv_icmp_ne (tgt := 48) S.1 S.2.1 dL_arcs_24 (by decide) (fun c24_1 => ?_) (fun c24_1 => ?_)
      · skip
        exact absurd c24_1 (by decide)
      · skip
        refine lv_aload_n S.1 S.2.1 dL_arcs_27 rfl (lv_at hl 0 rfl) ?_
        refine lv_iload_n S.1 S.2.1 dL_arcs_28 rfl (lv_at hl 1 rfl) ?_
        refine lv_iload_n S.1 S.2.1 dL_arcs_29 rfl (lv_at hl 2 rfl) ?_
        refine lv_iload_n S.1 S.2.1 dL_arcs_30 rfl (lv_at hl 3 rfl) ?_
        refine lv_iconst (v := 0) S.1 S.2.1 dL_arcs_31 (by decide) ?_
        refine lv_iconst (v := 0) S.1 S.2.1 dL_arcs_32 (by decide) ?_
        refine lv_iconst (v := 0) S.1 S.2.1 dL_arcs_33 (by decide) ?_
        refine x_ql (va_runV (As := [.int (nI i), .int (nI j), .int (nI k), .int 0, .int 0, .int 0]) (rest := []) S (c_X6_arc l g hJ E1_2 hX hv (nI i) (nI j) (nI k) 0 0 0) (cwV 6 S.2.2.2.2 gL_arcs_X6_arc rfl rfl rfl (by decide +kernel) ⟨Nat.le_of_ble_eq_true rfl, Nat.le_of_ble_eq_true rfl⟩) (x_preV hK hP h00 (by decide) rfl) rfl rfl hl.1 rfl (lv_room (Nat.le_of_ble_eq_true rfl)) dL_arcs_34 ⟨Nat.le_of_ble_eq_true rfl, Nat.le_of_ble_eq_true rfl⟩) hS (fun r34 E1_3 H locs q34 hP hS => ?_)
        obtain ⟨q34, hX, -⟩ := q34
        have h00 := hX.at0
        obtain rfl : r34 = -2 := v_ar2 hv hi hj hk (Or.inl hsm) q34
        refine lv_ldc2 S.1 S.2.1 S.2.2.2.1 (S.2.2.2.2 (.constantLong RL 36 (-2)) (by decide +kernel)) dL_arcs_37 ?_
        refine W.lcmp S.1 S.2.1 dL_arcs_40 ?_
        refine lv_if_ne (tgt := 48) S.1 S.2.1 dL_arcs_41 (by decide) (fun c41 => ?_) (fun c41 => ?_)
        · skip
          exact absurd ((lg_cmp_eq _ _).mpr rfl) c41
        · skip
          refine lv_iconst (v := 1) S.1 S.2.1 dL_arcs_44 (by decide) ?_
          refine lv_goto (tgt := 49) S.1 S.2.1 dL_arcs_45 (by decide) ?_
          exact x_zret S hr hlocks hP hS dL_arcs_49 rfl (⟨rfl, hX⟩)
    · skip
      refine lv_iload_n S.1 S.2.1 dL_arcs_10 rfl (lv_at hl 2 rfl) ?_
      refine lv_iload_n S.1 S.2.1 dL_arcs_11 rfl (lv_at hl 3 rfl) ?_
      refine lv_icmp_ne (tgt := 50) S.1 S.2.1 dL_arcs_12 (by decide) (fun c12 => ?_) (fun c12 => ?_)
      · skip
        have hne : ¬ (i = j ∨ i = k ∨ j = k) := by rintro (h | h | h); exact c2 (congrArg nI h); exact c7 (congrArg nI h); exact c12 (congrArg nI h)
        obtain ⟨a, b, c, hs⟩ := srt.ex hne
        obtain ⟨g1, g2, g3⟩ := hs.bnd hi hj hk
        refine lv_aload_n S.1 S.2.1 dL_arcs_50 rfl (lv_at hl 0 rfl) ?_
        refine lv_iload_n S.1 S.2.1 dL_arcs_51 rfl (lv_at hl 1 rfl) ?_
        refine lv_bipush (v := 6) S.1 S.2.1 dL_arcs_52 (by decide) ?_
        refine x_qi (va_runV (As := [.int (nI i), .int 6]) (rest := []) S (c_X6_photo l g hJ E hX hv (nI i) 6) (cwV 2 S.2.2.2.2 gL_arcs_X6_photo rfl rfl rfl (by decide +kernel) ⟨Nat.le_of_ble_eq_true rfl, Nat.le_of_ble_eq_true rfl⟩) (x_preV hK hP h00 (by decide) rfl) rfl rfl hl.1 rfl (lv_room (Nat.le_of_ble_eq_true rfl)) dL_arcs_54 ⟨Nat.le_of_ble_eq_true rfl, Nat.le_of_ble_eq_true rfl⟩) hS (fun r54 E1_4 H locs q54 hP hS => ?_)
        obtain ⟨q54, hX, -⟩ := q54
        have h00 := hX.at0
        obtain rfl : r54 = (zM z) 6 i := v_ph6 hv hi q54
        refine lv_aload_n S.1 S.2.1 dL_arcs_57 rfl (lv_at hl 0 rfl) ?_
        refine lv_iload_n S.1 S.2.1 dL_arcs_58 rfl (lv_at hl 2 rfl) ?_
        refine lv_bipush (v := 6) S.1 S.2.1 dL_arcs_59 (by decide) ?_
        refine x_qi (va_runV (As := [.int (nI j), .int 6]) (rest := [.int ((zM z) 6 i)]) S (c_X6_photo l g hJ E1_4 hX hv (nI j) 6) (cwV 2 S.2.2.2.2 gL_arcs_X6_photo rfl rfl rfl (by decide +kernel) ⟨Nat.le_of_ble_eq_true rfl, Nat.le_of_ble_eq_true rfl⟩) (x_preV hK hP h00 (by decide) rfl) rfl rfl hl.1 rfl (lv_room (Nat.le_of_ble_eq_true rfl)) dL_arcs_61 ⟨Nat.le_of_ble_eq_true rfl, Nat.le_of_ble_eq_true rfl⟩) hS (fun r61 E1_5 H locs q61 hP hS => ?_)
        obtain ⟨q61, hX, -⟩ := q61
        have h00 := hX.at0
        obtain rfl : r61 = (zM z) 6 j := v_ph6 hv hj q61
        refine lv_iadd S.1 S.2.1 dL_arcs_64 ?_
        refine lv_aload_n S.1 S.2.1 dL_arcs_65 rfl (lv_at hl 0 rfl) ?_
        refine lv_iload_n S.1 S.2.1 dL_arcs_66 rfl (lv_at hl 3 rfl) ?_
        refine lv_bipush (v := 6) S.1 S.2.1 dL_arcs_67 (by decide) ?_
        refine x_qi (va_runV (As := [.int (nI k), .int 6]) (rest := [.int (((zM z) 6 i) + ((zM z) 6 j))]) S (c_X6_photo l g hJ E1_5 hX hv (nI k) 6) (cwV 2 S.2.2.2.2 gL_arcs_X6_photo rfl rfl rfl (by decide +kernel) ⟨Nat.le_of_ble_eq_true rfl, Nat.le_of_ble_eq_true rfl⟩) (x_preV hK hP h00 (by decide) rfl) rfl rfl hl.1 rfl (lv_room (Nat.le_of_ble_eq_true rfl)) dL_arcs_69 ⟨Nat.le_of_ble_eq_true rfl, Nat.le_of_ble_eq_true rfl⟩) hS (fun r69 E1_6 H locs q69 hP hS => ?_)
        obtain ⟨q69, hX, -⟩ := q69
        have h00 := hX.at0
        obtain rfl : r69 = (zM z) 6 k := v_ph6 hv hk q69
        refine lv_iadd S.1 S.2.1 dL_arcs_72 ?_
        refine lv_if_le (tgt := 111) S.1 S.2.1 dL_arcs_73 (by decide) (fun c73 => ?_) (fun c73 => ?_)
        · skip
          have hu := (s6 hvM hi hj hk).mp c73
          refine lv_aload_n S.1 S.2.1 dL_arcs_111 rfl (lv_at hl 0 rfl) ?_
          refine lv_iload_n S.1 S.2.1 dL_arcs_112 rfl (lv_at hl 1 rfl) ?_
          refine lv_iload_n S.1 S.2.1 dL_arcs_113 rfl (lv_at hl 2 rfl) ?_
          refine lv_iload_n S.1 S.2.1 dL_arcs_114 rfl (lv_at hl 3 rfl) ?_
          refine x_qi (va_runV (As := [.int (nI i), .int (nI j), .int (nI k)]) (rest := []) S (c_X6_hits l g hJ E1_6 hX hv (nI i) (nI j) (nI k)) (cwV 3 S.2.2.2.2 gL_arcs_X6_hits rfl rfl rfl (by decide +kernel) ⟨Nat.le_of_ble_eq_true rfl, Nat.le_of_ble_eq_true rfl⟩) (x_preV hK hP h00 (by decide) rfl) rfl rfl hl.1 rfl (lv_room (Nat.le_of_ble_eq_true rfl)) dL_arcs_115 ⟨Nat.le_of_ble_eq_true rfl, Nat.le_of_ble_eq_true rfl⟩) hS (fun r115 E1_7 H locs q115 hP hS => ?_)
          obtain ⟨q115, hX, -⟩ := q115
          have h00 := hX.at0
          obtain rfl : r115 = nI (mk (fun q => pU (zM z) q && hitB (zM z) a b c q) (zn z)) := v_htU hv hi hj hk hs hu q115
          refine lv_istore (lv' := [(4, .int (nI (mk (fun q => pU (zM z) q && hitB (zM z) a b c q) (zn z)))), (0, .ref (xad g 0)), (1, .int (nI i)), (2, .int (nI j)), (3, .int (nI k))]) S.1 S.2.1 dL_arcs_118 hl (by decide) rfl (fun ls hl => ?_)
          refine lv_iconst (v := 0) S.1 S.2.1 dL_arcs_120 (by decide) ?_
          refine lv_istore (lv' := [(5, .int 0), (4, .int (nI (mk (fun q => pU (zM z) q && hitB (zM z) a b c q) (zn z)))), (0, .ref (xad g 0)), (1, .int (nI i)), (2, .int (nI j)), (3, .int (nI k))]) S.1 S.2.1 dL_arcs_121 hl (by decide) rfl (fun ls hl => ?_)
          have loop123 : ∀ (d : Nat) (p : Nat) (EL : Nat → va_E) (H : Heap) (locs : List Loc), (hp : p ≤ zn z) → (zn z + 1 - p) < d → (hX : sX g EL z) → (h00 : EL 0 = .inr (6, [.ref (xad g 1), .ref (xad g 10), .int (bI (zf z)), .ref (xad g 19), .ref (xad g 57), .ref (xad g 59), .ref (xad g 60), .ref (xad g 61), .ref (xad g 64)])) → xP g EL H → va_S (xA (xad g)) s.heap H locs → ∀ ls : Array Slot, lv_has ls 14 [(5, .int (nI p)), (4, .int (nI (mk (fun q => pU (zM z) q && hitB (zM z) a b c q) (zn z)))), (0, .ref (xad g 0)), (1, .int (nI i)), (2, .int (nI j)), (3, .int (nI k))] → W pz l ez ({ frames := 8, cells := 0, slots := 0, locals := 186 }) s m ([.ref (xad g 0), .int (nI i), .int (nI j), .int (nI k)] : List Value).toArray below meth cz H locs 0 0 (MQ below (xQi g (fun r E1 => r = 1 ∧ sX g E1 z)) ([.ref (xad g 0), .int (nI i), .int (nI j), .int (nI k)] : List Value).toArray s 0 0 (xA (xad g))) (F0 m 123 ls []) := by
            intro d
            induction d with
            | zero => intro p EL H locs hp hd; exact absurd hd (Nat.not_lt_zero _)
            | succ d ih123 =>
              intro p EL H locs hp hd hX h00 hP hS ls hl
              refine lv_iload S.1 S.2.1 dL_arcs_123 (lv_at hl 0 rfl) ?_
              refine lv_aload_n S.1 S.2.1 dL_arcs_125 rfl (lv_at hl 2 rfl) ?_
              refine lv_iconst (v := 0) S.1 S.2.1 dL_arcs_126 (by decide) ?_
              refine x_qi (va_runV (As := [.int 0]) (rest := [.int (nI p)]) S (c_X6_count l g hJ EL hX hv 0) (cwV 1 S.2.2.2.2 gL_arcs_X6_count rfl rfl rfl (by decide +kernel) ⟨Nat.le_of_ble_eq_true rfl, Nat.le_of_ble_eq_true rfl⟩) (x_preV hK hP h00 (by decide) rfl) rfl rfl hl.1 rfl (lv_room (Nat.le_of_ble_eq_true rfl)) dL_arcs_127 ⟨Nat.le_of_ble_eq_true rfl, Nat.le_of_ble_eq_true rfl⟩) hS (fun r127 E1_8 H locs q127 hP hS => ?_)
              obtain ⟨q127, hX, -⟩ := q127
              have h00 := hX.at0
              obtain rfl : r127 = nI (zn z) := v_ct0 q127
              refine lv_icmp_ge (tgt := 365) S.1 S.2.1 dL_arcs_130 (by decide) (fun c130 => ?_) (fun c130 => ?_)
              · skip
                refine lv_iload S.1 S.2.1 dL_arcs_365 (lv_at hl 1 rfl) ?_
                refine lv_iload_n S.1 S.2.1 dL_arcs_367 rfl (lv_at hl 3 rfl) ?_
                refine lv_ishr S.1 S.2.1 dL_arcs_368 ?_
                refine lv_iconst (v := 1) S.1 S.2.1 dL_arcs_369 (by decide) ?_
                refine lv_iand S.1 S.2.1 dL_arcs_370 ?_
                refine W.eq (g2 := F0 m 371 ls [.int 1]) (by rw [hit_i hvM hn hi g1 g2 g3 hu.1 (hs.in3 (Or.inl rfl))]) ?_
                refine lv_iconst (v := 1) S.1 S.2.1 dL_arcs_371 (by decide) ?_
                refine lv_icmp_ne (tgt := 417) S.1 S.2.1 dL_arcs_372 (by decide) (fun c372 => ?_) (fun c372 => ?_)
                · skip
                  exact absurd c372 (by decide)
                · skip
                  refine lv_iload S.1 S.2.1 dL_arcs_375 (lv_at hl 1 rfl) ?_
                  refine lv_iload_n S.1 S.2.1 dL_arcs_377 rfl (lv_at hl 4 rfl) ?_
                  refine lv_ishr S.1 S.2.1 dL_arcs_378 ?_
                  refine lv_iconst (v := 1) S.1 S.2.1 dL_arcs_379 (by decide) ?_
                  refine lv_iand S.1 S.2.1 dL_arcs_380 ?_
                  refine W.eq (g2 := F0 m 381 ls [.int 1]) (by rw [hit_i hvM hn hj g1 g2 g3 hu.2.1 (hs.in3 (Or.inr (Or.inl rfl)))]) ?_
                  refine lv_iconst (v := 1) S.1 S.2.1 dL_arcs_381 (by decide) ?_
                  refine lv_icmp_ne (tgt := 417) S.1 S.2.1 dL_arcs_382 (by decide) (fun c382 => ?_) (fun c382 => ?_)
                  · skip
                    exact absurd c382 (by decide)
                  · skip
                    refine lv_iload S.1 S.2.1 dL_arcs_385 (lv_at hl 1 rfl) ?_
                    refine lv_iload_n S.1 S.2.1 dL_arcs_387 rfl (lv_at hl 5 rfl) ?_
                    refine lv_ishr S.1 S.2.1 dL_arcs_388 ?_
                    refine lv_iconst (v := 1) S.1 S.2.1 dL_arcs_389 (by decide) ?_
                    refine lv_iand S.1 S.2.1 dL_arcs_390 ?_
                    refine W.eq (g2 := F0 m 391 ls [.int 1]) (by rw [hit_i hvM hn hk g1 g2 g3 hu.2.2 (hs.in3 (Or.inr (Or.inr rfl)))]) ?_
                    refine lv_iconst (v := 1) S.1 S.2.1 dL_arcs_391 (by decide) ?_
                    refine lv_icmp_ne (tgt := 417) S.1 S.2.1 dL_arcs_392 (by decide) (fun c392 => ?_) (fun c392 => ?_)
                    · skip
                      exact absurd c392 (by decide)
                    · skip
                      refine lv_aload_n S.1 S.2.1 dL_arcs_395 rfl (lv_at hl 2 rfl) ?_
                      refine lv_iload_n S.1 S.2.1 dL_arcs_396 rfl (lv_at hl 3 rfl) ?_
                      refine lv_iload_n S.1 S.2.1 dL_arcs_397 rfl (lv_at hl 4 rfl) ?_
                      refine lv_iload_n S.1 S.2.1 dL_arcs_398 rfl (lv_at hl 5 rfl) ?_
                      refine lv_bipush (v := 100) S.1 S.2.1 dL_arcs_399 (by decide) ?_
                      refine lv_iconst (v := 0) S.1 S.2.1 dL_arcs_401 (by decide) ?_
                      refine lv_iconst (v := 0) S.1 S.2.1 dL_arcs_402 (by decide) ?_
                      refine x_ql (va_runV (As := [.int (nI i), .int (nI j), .int (nI k), .int 100, .int 0, .int 0]) (rest := []) S (c_X6_arc l g hJ E1_8 hX hv (nI i) (nI j) (nI k) 100 0 0) (cwV 6 S.2.2.2.2 gL_arcs_X6_arc rfl rfl rfl (by decide +kernel) ⟨Nat.le_of_ble_eq_true rfl, Nat.le_of_ble_eq_true rfl⟩) (x_preV hK hP h00 (by decide) rfl) rfl rfl hl.1 rfl (lv_room (Nat.le_of_ble_eq_true rfl)) dL_arcs_403 ⟨Nat.le_of_ble_eq_true rfl, Nat.le_of_ble_eq_true rfl⟩) hS (fun r403 E1_9 H locs q403 hP hS => ?_)
                      obtain ⟨q403, hX, -⟩ := q403
                      have h00 := hX.at0
                      obtain rfl : r403 = -2 := v_ar2 hv hi hj hk (Or.inr (by unfold isAsk; decide)) q403
                      refine lv_ldc2 S.1 S.2.1 S.2.2.2.1 (S.2.2.2.2 (.constantLong RL 36 (-2)) (by decide +kernel)) dL_arcs_406 ?_
                      refine W.lcmp S.1 S.2.1 dL_arcs_409 ?_
                      refine lv_if_ne (tgt := 417) S.1 S.2.1 dL_arcs_410 (by decide) (fun c410 => ?_) (fun c410 => ?_)
                      · skip
                        exact absurd ((lg_cmp_eq _ _).mpr rfl) c410
                      · skip
                        refine lv_iconst (v := 1) S.1 S.2.1 dL_arcs_413 (by decide) ?_
                        refine lv_goto (tgt := 418) S.1 S.2.1 dL_arcs_414 (by decide) ?_
                        exact x_zret S hr hlocks hP hS dL_arcs_418 rfl (⟨rfl, hX⟩)
              · skip
                have hpn := kn_lt hn hp c130
                refine lv_iconst (v := 1) S.1 S.2.1 dL_arcs_133 (by decide) ?_
                refine lv_istore (lv' := [(6, .int 1), (5, .int (nI p)), (4, .int (nI (mk (fun q => pU (zM z) q && hitB (zM z) a b c q) (zn z)))), (0, .ref (xad g 0)), (1, .int (nI i)), (2, .int (nI j)), (3, .int (nI k))]) S.1 S.2.1 dL_arcs_134 hl (by decide) rfl (fun ls hl => ?_)
                refine lv_iconst (v := 0) S.1 S.2.1 dL_arcs_136 (by decide) ?_
                refine lv_istore (lv' := [(7, .int 0), (6, .int 1), (5, .int (nI p)), (4, .int (nI (mk (fun q => pU (zM z) q && hitB (zM z) a b c q) (zn z)))), (0, .ref (xad g 0)), (1, .int (nI i)), (2, .int (nI j)), (3, .int (nI k))]) S.1 S.2.1 dL_arcs_137 hl (by decide) rfl (fun ls hl => ?_)
                have loop139 : ∀ (d : Nat) (w : Nat) (EL : Nat → va_E) (H : Heap) (locs : List Loc), (hw : w ≤ 2) → (3 - w) < d → (hX : sX g EL z) → (h00 : EL 0 = .inr (6, [.ref (xad g 1), .ref (xad g 10), .int (bI (zf z)), .ref (xad g 19), .ref (xad g 57), .ref (xad g 59), .ref (xad g 60), .ref (xad g 61), .ref (xad g 64)])) → xP g EL H → va_S (xA (xad g)) s.heap H locs → ∀ ls : Array Slot, lv_has ls 14 [(7, .int (nI w)), (6, .int (bI (hW (zM z) a b c p w))), (5, .int (nI p)), (4, .int (nI (mk (fun q => pU (zM z) q && hitB (zM z) a b c q) (zn z)))), (0, .ref (xad g 0)), (1, .int (nI i)), (2, .int (nI j)), (3, .int (nI k))] → W pz l ez ({ frames := 8, cells := 0, slots := 0, locals := 186 }) s m ([.ref (xad g 0), .int (nI i), .int (nI j), .int (nI k)] : List Value).toArray below meth cz H locs 0 0 (MQ below (xQi g (fun r E1 => r = 1 ∧ sX g E1 z)) ([.ref (xad g 0), .int (nI i), .int (nI j), .int (nI k)] : List Value).toArray s 0 0 (xA (xad g))) (F0 m 139 ls []) := by
                  intro d
                  induction d with
                  | zero => intro w EL H locs hw hd; exact absurd hd (Nat.not_lt_zero _)
                  | succ d ih139 =>
                    intro w EL H locs hw hd hX h00 hP hS ls hl
                    refine lv_iload S.1 S.2.1 dL_arcs_139 (lv_at hl 0 rfl) ?_
                    refine lv_iconst (v := 2) S.1 S.2.1 dL_arcs_141 (by decide) ?_
                    refine lv_icmp_ge (tgt := 317) S.1 S.2.1 dL_arcs_142 (by decide) (fun c142 => ?_) (fun c142 => ?_)
                    · skip
                      obtain rfl := e2 hw c142
                      refine lv_iload S.1 S.2.1 dL_arcs_317 (lv_at hl 3 rfl) ?_
                      refine lv_iload S.1 S.2.1 dL_arcs_319 (lv_at hl 2 rfl) ?_
                      refine lv_ishr S.1 S.2.1 dL_arcs_321 ?_
                      refine lv_iconst (v := 1) S.1 S.2.1 dL_arcs_322 (by decide) ?_
                      refine lv_iand S.1 S.2.1 dL_arcs_323 ?_
                      refine W.eq (g2 := F0 m 324 ls [.int (bI (pU (zM z) p && hitB (zM z) a b c p))]) (by rw [hit_at hn hpn]) ?_
                      refine lv_iconst (v := 1) S.1 S.2.1 dL_arcs_324 (by decide) ?_
                      refine lv_icmp_ne (tgt := 332) S.1 S.2.1 dL_arcs_325 (by decide) (fun c325 => ?_) (fun c325 => ?_)
                      · skip
                        refine lv_iconst (v := 0) S.1 S.2.1 dL_arcs_332 (by decide) ?_
                        refine lv_iload S.1 S.2.1 dL_arcs_333 (lv_at hl 1 rfl) ?_
                        refine lv_if_eq (tgt := 353) S.1 S.2.1 dL_arcs_335 (by decide) (fun c335 => ?_) (fun c335 => ?_)
                        · skip
                          refine lv_iconst (v := 0) S.1 S.2.1 dL_arcs_353 (by decide) ?_
                          refine lv_icmp_eq (tgt := 359) S.1 S.2.1 dL_arcs_354 (by decide) (fun c354 => ?_) (fun c354 => ?_)
                          · skip
                            refine lv_iinc (v := nI (p + 1)) (lv' := [(5, .int (nI (p + 1))), (7, .int (nI 2)), (6, .int (bI (hW (zM z) a b c p 2))), (4, .int (nI (mk (fun q => pU (zM z) q && hitB (zM z) a b c q) (zn z)))), (0, .ref (xad g 0)), (1, .int (nI i)), (2, .int (nI j)), (3, .int (nI k))]) S.1 S.2.1 dL_arcs_359 hl (k := 2) rfl (show nI p + Int32.ofInt 1 = _ from nI_1 _) (by decide) rfl (fun ls hl => ?_)
                            refine lv_goto (tgt := 123) S.1 S.2.1 dL_arcs_362 (by decide) ?_
                            exact ih123 (p + 1) _ _ _ (by omega) (by omega) hX h00 hP hS ls (lv_sub hl [0, 3, 4, 5, 6, 7] rfl)
                          · skip
                            exact absurd c354 (by decide)
                        · skip
                          refine lv_aload_n S.1 S.2.1 dL_arcs_338 rfl (lv_at hl 4 rfl) ?_
                          refine lv_iload S.1 S.2.1 dL_arcs_339 (lv_at hl 2 rfl) ?_
                          refine lv_bipush (v := 6) S.1 S.2.1 dL_arcs_341 (by decide) ?_
                          refine x_qi (va_runV (As := [.int (nI p), .int 6]) (rest := [.int 0]) S (c_X6_photo l g hJ EL hX hv (nI p) 6) (cwV 2 S.2.2.2.2 gL_arcs_X6_photo rfl rfl rfl (by decide +kernel) ⟨Nat.le_of_ble_eq_true rfl, Nat.le_of_ble_eq_true rfl⟩) (x_preV hK hP h00 (by decide) rfl) rfl rfl hl.1 rfl (lv_room (Nat.le_of_ble_eq_true rfl)) dL_arcs_343 ⟨Nat.le_of_ble_eq_true rfl, Nat.le_of_ble_eq_true rfl⟩) hS (fun r343 E1_10 H locs q343 hP hS => ?_)
                          obtain ⟨q343, hX, -⟩ := q343
                          have h00 := hX.at0
                          obtain rfl : r343 = (zM z) 6 p := v_ph6 hv hpn q343
                          refine lv_if_ne (tgt := 353) S.1 S.2.1 dL_arcs_346 (by decide) (fun c346 => ?_) (fun c346 => ?_)
                          · skip
                            refine lv_iconst (v := 0) S.1 S.2.1 dL_arcs_353 (by decide) ?_
                            refine lv_icmp_eq (tgt := 359) S.1 S.2.1 dL_arcs_354 (by decide) (fun c354_1 => ?_) (fun c354_1 => ?_)
                            · skip
                              refine lv_iinc (v := nI (p + 1)) (lv' := [(5, .int (nI (p + 1))), (7, .int (nI 2)), (6, .int (bI (hW (zM z) a b c p 2))), (4, .int (nI (mk (fun q => pU (zM z) q && hitB (zM z) a b c q) (zn z)))), (0, .ref (xad g 0)), (1, .int (nI i)), (2, .int (nI j)), (3, .int (nI k))]) S.1 S.2.1 dL_arcs_359 hl (k := 2) rfl (show nI p + Int32.ofInt 1 = _ from nI_1 _) (by decide) rfl (fun ls hl => ?_)
                              refine lv_goto (tgt := 123) S.1 S.2.1 dL_arcs_362 (by decide) ?_
                              exact ih123 (p + 1) _ _ _ (by omega) (by omega) hX h00 hP hS ls (lv_sub hl [0, 3, 4, 5, 6, 7] rfl)
                            · skip
                              exact absurd c354_1 (by decide)
                          · skip
                            exact absurd (Bool.and_eq_true_iff.mpr ⟨pU_z c346, (hW2 hvM g1 g2 g3 hpn).symm.trans (bI_nz c335)⟩) (Bool.eq_false_iff.mp (bI_f c325))
                      · skip
                        refine lv_iconst (v := 1) S.1 S.2.1 dL_arcs_328 (by decide) ?_
                        refine lv_goto (tgt := 333) S.1 S.2.1 dL_arcs_329 (by decide) ?_
                        refine lv_iload S.1 S.2.1 dL_arcs_333 (lv_at hl 1 rfl) ?_
                        refine lv_if_eq (tgt := 353) S.1 S.2.1 dL_arcs_335 (by decide) (fun c335 => ?_) (fun c335 => ?_)
                        · skip
                          exact absurd (((hW2 hvM g1 g2 g3 hpn).symm.trans (bI_z c335)).symm.trans (Bool.and_eq_true_iff.mp (bI_t c325)).2) (by decide)
                        · skip
                          refine lv_aload_n S.1 S.2.1 dL_arcs_338 rfl (lv_at hl 4 rfl) ?_
                          refine lv_iload S.1 S.2.1 dL_arcs_339 (lv_at hl 2 rfl) ?_
                          refine lv_bipush (v := 6) S.1 S.2.1 dL_arcs_341 (by decide) ?_
                          refine x_qi (va_runV (As := [.int (nI p), .int 6]) (rest := [.int 1]) S (c_X6_photo l g hJ EL hX hv (nI p) 6) (cwV 2 S.2.2.2.2 gL_arcs_X6_photo rfl rfl rfl (by decide +kernel) ⟨Nat.le_of_ble_eq_true rfl, Nat.le_of_ble_eq_true rfl⟩) (x_preV hK hP h00 (by decide) rfl) rfl rfl hl.1 rfl (lv_room (Nat.le_of_ble_eq_true rfl)) dL_arcs_343 ⟨Nat.le_of_ble_eq_true rfl, Nat.le_of_ble_eq_true rfl⟩) hS (fun r343 E1_11 H locs q343 hP hS => ?_)
                          obtain ⟨q343, hX, -⟩ := q343
                          have h00 := hX.at0
                          obtain rfl : r343 = (zM z) 6 p := v_ph6 hv hpn q343
                          refine lv_if_ne (tgt := 353) S.1 S.2.1 dL_arcs_346 (by decide) (fun c346 => ?_) (fun c346 => ?_)
                          · skip
                            exact absurd (Bool.and_eq_true_iff.mp (bI_t c325)).1 (pU_nz c346)
                          · skip
                            refine lv_iconst (v := 1) S.1 S.2.1 dL_arcs_349 (by decide) ?_
                            refine lv_goto (tgt := 354) S.1 S.2.1 dL_arcs_350 (by decide) ?_
                            refine lv_icmp_eq (tgt := 359) S.1 S.2.1 dL_arcs_354 (by decide) (fun c354_2 => ?_) (fun c354_2 => ?_)
                            · skip
                              refine lv_iinc (v := nI (p + 1)) (lv' := [(5, .int (nI (p + 1))), (7, .int (nI 2)), (6, .int (bI (hW (zM z) a b c p 2))), (4, .int (nI (mk (fun q => pU (zM z) q && hitB (zM z) a b c q) (zn z)))), (0, .ref (xad g 0)), (1, .int (nI i)), (2, .int (nI j)), (3, .int (nI k))]) S.1 S.2.1 dL_arcs_359 hl (k := 2) rfl (show nI p + Int32.ofInt 1 = _ from nI_1 _) (by decide) rfl (fun ls hl => ?_)
                              refine lv_goto (tgt := 123) S.1 S.2.1 dL_arcs_362 (by decide) ?_
                              exact ih123 (p + 1) _ _ _ (by omega) (by omega) hX h00 hP hS ls (lv_sub hl [0, 3, 4, 5, 6, 7] rfl)
                            · skip
                              exact absurd c354_2 (by decide)
                    · skip
                      have hw2 := k2 hw c142
                      refine lv_aload_n S.1 S.2.1 dL_arcs_145 rfl (lv_at hl 4 rfl) ?_
                      refine lv_iload_n S.1 S.2.1 dL_arcs_146 rfl (lv_at hl 5 rfl) ?_
                      refine lv_iload_n S.1 S.2.1 dL_arcs_147 rfl (lv_at hl 6 rfl) ?_
                      refine lv_iload_n S.1 S.2.1 dL_arcs_148 rfl (lv_at hl 7 rfl) ?_
                      refine lv_aload_n S.1 S.2.1 dL_arcs_149 rfl (lv_at hl 4 rfl) ?_
                      refine lv_iload S.1 S.2.1 dL_arcs_150 (lv_at hl 2 rfl) ?_
                      refine lv_iconst (v := 0) S.1 S.2.1 dL_arcs_152 (by decide) ?_
                      refine x_qi (va_runV (As := [.int (nI p), .int 0]) (rest := [.int (nI k), .int (nI j), .int (nI i), .ref (xad g 0)]) S (c_X6_photo l g hJ EL hX hv (nI p) 0) (cwV 2 S.2.2.2.2 gL_arcs_X6_photo rfl rfl rfl (by decide +kernel) ⟨Nat.le_of_ble_eq_true rfl, Nat.le_of_ble_eq_true rfl⟩) (x_preV hK hP h00 (by decide) rfl) rfl rfl hl.1 rfl (lv_room (Nat.le_of_ble_eq_true rfl)) dL_arcs_153 ⟨Nat.le_of_ble_eq_true rfl, Nat.le_of_ble_eq_true rfl⟩) hS (fun r153 E1_12 H locs q153 hP hS => ?_)
                      obtain ⟨q153, hX, -⟩ := q153
                      have h00 := hX.at0
                      obtain rfl : r153 = (zM z) 0 p := v_ph0 hv hpn q153
                      refine lv_iload S.1 S.2.1 dL_arcs_156 (lv_at hl 0 rfl) ?_
                      refine lv_iconst (v := 0) S.1 S.2.1 dL_arcs_158 (by decide) ?_
                      refine x_ql (va_runV (As := [.int (nI i), .int (nI j), .int (nI k), .int ((zM z) 0 p), .int (nI w), .int 0]) (rest := []) S (c_X6_arc l g hJ E1_12 hX hv (nI i) (nI j) (nI k) ((zM z) 0 p) (nI w) 0) (cwV 6 S.2.2.2.2 gL_arcs_X6_arc rfl rfl rfl (by decide +kernel) ⟨Nat.le_of_ble_eq_true rfl, Nat.le_of_ble_eq_true rfl⟩) (x_preV hK hP h00 (by decide) rfl) rfl rfl hl.1 rfl (lv_room (Nat.le_of_ble_eq_true rfl)) dL_arcs_159 ⟨Nat.le_of_ble_eq_true rfl, Nat.le_of_ble_eq_true rfl⟩) hS (fun r159 E1_13 H locs q159 hP hS => ?_)
                      obtain ⟨q159, hX, -⟩ := q159
                      have h00 := hX.at0
                      obtain rfl : r159 = arN (zM z) w a b c (zM z 0 p) 0 := v_arU hv hi hj hk hs hw2 (ask_p hvM hpn hw2 (by decide)) hu q159
                      refine x_sl (va_runS (As := [.long (arN (zM z) w a b c (zM z 0 p) 0)]) (rest := []) S (c_L_upper l g E1_13 (arN (zM z) w a b c (zM z 0 p) 0)) (va_cwS 1 S.2.2.2.2 gL_arcs_L_upper rfl rfl rfl (by decide +kernel) ⟨Nat.le_of_ble_eq_true rfl, Nat.le_of_ble_eq_true rfl⟩) (x_preS hK hP) rfl rfl hl.1 rfl (lv_room (Nat.le_of_ble_eq_true rfl)) dL_arcs_162 ⟨Nat.le_of_ble_eq_true rfl, Nat.le_of_ble_eq_true rfl⟩) (fun r162 hr162 => ?_)
                      obtain rfl : r162 = (arN (zM z) w a b c (zM z 0 p) 0) - 10000000000 := hr162
                      refine W.eq (g2 := F0 m 165 ls [.long (upR (zM z) a b c w p)]) (by rw [upR_e]) ?_
                      refine lv_lstore (lv' := [(8, .long (upR (zM z) a b c w p)), (7, .int (nI w)), (6, .int (bI (hW (zM z) a b c p w))), (5, .int (nI p)), (4, .int (nI (mk (fun q => pU (zM z) q && hitB (zM z) a b c q) (zn z)))), (0, .ref (xad g 0)), (1, .int (nI i)), (2, .int (nI j)), (3, .int (nI k))]) S.1 S.2.1 dL_arcs_165 hl (by decide) rfl (fun ls hl => ?_)
                      refine lv_aload_n S.1 S.2.1 dL_arcs_167 rfl (lv_at hl 5 rfl) ?_
                      refine lv_iload_n S.1 S.2.1 dL_arcs_168 rfl (lv_at hl 6 rfl) ?_
                      refine lv_iload_n S.1 S.2.1 dL_arcs_169 rfl (lv_at hl 7 rfl) ?_
                      refine lv_iload_n S.1 S.2.1 dL_arcs_170 rfl (lv_at hl 8 rfl) ?_
                      refine lv_aload_n S.1 S.2.1 dL_arcs_171 rfl (lv_at hl 5 rfl) ?_
                      refine lv_iload S.1 S.2.1 dL_arcs_172 (lv_at hl 3 rfl) ?_
                      refine lv_iconst (v := 0) S.1 S.2.1 dL_arcs_174 (by decide) ?_
                      refine x_qi (va_runV (As := [.int (nI p), .int 0]) (rest := [.int (nI k), .int (nI j), .int (nI i), .ref (xad g 0)]) S (c_X6_photo l g hJ E1_13 hX hv (nI p) 0) (cwV 2 S.2.2.2.2 gL_arcs_X6_photo rfl rfl rfl (by decide +kernel) ⟨Nat.le_of_ble_eq_true rfl, Nat.le_of_ble_eq_true rfl⟩) (x_preV hK hP h00 (by decide) rfl) rfl rfl hl.1 rfl (lv_room (Nat.le_of_ble_eq_true rfl)) dL_arcs_175 ⟨Nat.le_of_ble_eq_true rfl, Nat.le_of_ble_eq_true rfl⟩) hS (fun r175 E1_14 H locs q175 hP hS => ?_)
                      obtain ⟨q175, hX, -⟩ := q175
                      have h00 := hX.at0
                      obtain rfl : r175 = (zM z) 0 p := v_ph0 hv hpn q175
                      refine lv_iload S.1 S.2.1 dL_arcs_178 (lv_at hl 1 rfl) ?_
                      refine lv_iconst (v := 1) S.1 S.2.1 dL_arcs_180 (by decide) ?_
                      refine x_ql (va_runV (As := [.int (nI i), .int (nI j), .int (nI k), .int ((zM z) 0 p), .int (nI w), .int 1]) (rest := []) S (c_X6_arc l g hJ E1_14 hX hv (nI i) (nI j) (nI k) ((zM z) 0 p) (nI w) 1) (cwV 6 S.2.2.2.2 gL_arcs_X6_arc rfl rfl rfl (by decide +kernel) ⟨Nat.le_of_ble_eq_true rfl, Nat.le_of_ble_eq_true rfl⟩) (x_preV hK hP h00 (by decide) rfl) rfl rfl hl.1 rfl (lv_room (Nat.le_of_ble_eq_true rfl)) dL_arcs_181 ⟨Nat.le_of_ble_eq_true rfl, Nat.le_of_ble_eq_true rfl⟩) hS (fun r181 E1_15 H locs q181 hP hS => ?_)
                      obtain ⟨q181, hX, -⟩ := q181
                      have h00 := hX.at0
                      obtain rfl : r181 = arN (zM z) w a b c (zM z 0 p) 1 := v_arU hv hi hj hk hs hw2 (ask_p hvM hpn hw2 (by decide)) hu q181
                      refine W.eq (g2 := F0 m 184 ls [.long (dnR (zM z) a b c w p)]) (by rw [dnR_e]) ?_
                      refine lv_lstore (lv' := [(10, .long (dnR (zM z) a b c w p)), (8, .long (upR (zM z) a b c w p)), (7, .int (nI w)), (6, .int (bI (hW (zM z) a b c p w))), (5, .int (nI p)), (4, .int (nI (mk (fun q => pU (zM z) q && hitB (zM z) a b c q) (zn z)))), (0, .ref (xad g 0)), (1, .int (nI i)), (2, .int (nI j)), (3, .int (nI k))]) S.1 S.2.1 dL_arcs_184 hl (by decide) rfl (fun ls hl => ?_)
                      refine lv_lload S.1 S.2.1 dL_arcs_186 (lv_at hl 1 rfl) ?_
                      refine lv_aload_n S.1 S.2.1 dL_arcs_188 rfl (lv_at hl 6 rfl) ?_
                      refine lv_iload S.1 S.2.1 dL_arcs_189 (lv_at hl 4 rfl) ?_
                      refine lv_iconst (v := 1) S.1 S.2.1 dL_arcs_191 (by decide) ?_
                      refine lv_iload S.1 S.2.1 dL_arcs_192 (lv_at hl 2 rfl) ?_
                      refine lv_iadd S.1 S.2.1 dL_arcs_194 ?_
                      refine x_qi (va_runV (As := [.int (nI p), .int (1 + (nI w))]) (rest := [.long (upR (zM z) a b c w p)]) S (c_X6_photo l g hJ E1_15 hX hv (nI p) (1 + (nI w))) (cwV 2 S.2.2.2.2 gL_arcs_X6_photo rfl rfl rfl (by decide +kernel) ⟨Nat.le_of_ble_eq_true rfl, Nat.le_of_ble_eq_true rfl⟩) (x_preV hK hP h00 (by decide) rfl) rfl rfl hl.1 rfl (lv_room (Nat.le_of_ble_eq_true rfl)) dL_arcs_195 ⟨Nat.le_of_ble_eq_true rfl, Nat.le_of_ble_eq_true rfl⟩) hS (fun r195 E1_16 H locs q195 hP hS => ?_)
                      obtain ⟨q195, hX, -⟩ := q195
                      have h00 := hX.at0
                      obtain rfl : r195 = zM z (1 + w) p + 1000 := v_phW hv hpn hw2 q195
                      refine lv_sipush (v := 1000) S.1 S.2.1 dL_arcs_198 (by decide) ?_
                      refine lv_isub S.1 S.2.1 dL_arcs_201 ?_
                      refine lv_i2l (v := ((zM z (1 + w) p + 1000) - 1000).toInt64) S.1 S.2.1 dL_arcs_202 rfl ?_
                      refine lv_lload S.1 S.2.1 dL_arcs_203 (lv_at hl 0 rfl) ?_
                      refine lv_lmul S.1 S.2.1 dL_arcs_205 ?_
                      refine lv_lsub S.1 S.2.1 dL_arcs_206 ?_
                      refine W.eq (g2 := F0 m 207 ls [.long (apR (zM z) a b c w p)]) (by rw [apR_e]) ?_
                      refine lv_lstore (lv' := [(12, .long (apR (zM z) a b c w p)), (10, .long (dnR (zM z) a b c w p)), (8, .long (upR (zM z) a b c w p)), (7, .int (nI w)), (6, .int (bI (hW (zM z) a b c p w))), (5, .int (nI p)), (4, .int (nI (mk (fun q => pU (zM z) q && hitB (zM z) a b c q) (zn z)))), (0, .ref (xad g 0)), (1, .int (nI i)), (2, .int (nI j)), (3, .int (nI k))]) S.1 S.2.1 dL_arcs_207 hl (by decide) rfl (fun ls hl => ?_)
                      refine lv_lload S.1 S.2.1 dL_arcs_209 (lv_at hl 1 rfl) ?_
                      refine lv_lconst (v := 1) S.1 S.2.1 dL_arcs_211 rfl ?_
                      refine W.lcmp S.1 S.2.1 dL_arcs_212 ?_
                      refine lv_if_lt (tgt := 242) S.1 S.2.1 dL_arcs_213 (by decide) (fun c213 => ?_) (fun c213 => ?_)
                      · skip
                        exact absurd ((lg_cmp_lt _ _).mp c213) (dnR_1 hvM g1 g2 g3 hpn hw2)
                      · skip
                        refine lv_lload S.1 S.2.1 dL_arcs_216 (lv_at hl 2 rfl) ?_
                        refine lv_aload_n S.1 S.2.1 dL_arcs_218 rfl (lv_at hl 7 rfl) ?_
                        refine lv_iload_n S.1 S.2.1 dL_arcs_219 rfl (lv_at hl 10 rfl) ?_
                        refine lv_iload_n S.1 S.2.1 dL_arcs_220 rfl (lv_at hl 8 rfl) ?_
                        refine lv_iload_n S.1 S.2.1 dL_arcs_221 rfl (lv_at hl 9 rfl) ?_
                        refine lv_aload_n S.1 S.2.1 dL_arcs_222 rfl (lv_at hl 7 rfl) ?_
                        refine lv_iload S.1 S.2.1 dL_arcs_223 (lv_at hl 5 rfl) ?_
                        refine lv_iconst (v := 0) S.1 S.2.1 dL_arcs_225 (by decide) ?_
                        refine x_qi (va_runV (As := [.int (nI p), .int 0]) (rest := [.int (nI j), .int (nI i), .int (nI k), .ref (xad g 0), .long (upR (zM z) a b c w p)]) S (c_X6_photo l g hJ E1_16 hX hv (nI p) 0) (cwV 2 S.2.2.2.2 gL_arcs_X6_photo rfl rfl rfl (by decide +kernel) ⟨Nat.le_of_ble_eq_true rfl, Nat.le_of_ble_eq_true rfl⟩) (x_preV hK hP h00 (by decide) rfl) rfl rfl hl.1 rfl (lv_room (Nat.le_of_ble_eq_true rfl)) dL_arcs_226 ⟨Nat.le_of_ble_eq_true rfl, Nat.le_of_ble_eq_true rfl⟩) hS (fun r226 E1_17 H locs q226 hP hS => ?_)
                        obtain ⟨q226, hX, -⟩ := q226
                        have h00 := hX.at0
                        obtain rfl : r226 = (zM z) 0 p := v_ph0 hv hpn q226
                        refine lv_iload S.1 S.2.1 dL_arcs_229 (lv_at hl 3 rfl) ?_
                        refine lv_iconst (v := 0) S.1 S.2.1 dL_arcs_231 (by decide) ?_
                        refine x_ql (va_runV (As := [.int (nI k), .int (nI i), .int (nI j), .int ((zM z) 0 p), .int (nI w), .int 0]) (rest := [.long (upR (zM z) a b c w p)]) S (c_X6_arc l g hJ E1_17 hX hv (nI k) (nI i) (nI j) ((zM z) 0 p) (nI w) 0) (cwV 6 S.2.2.2.2 gL_arcs_X6_arc rfl rfl rfl (by decide +kernel) ⟨Nat.le_of_ble_eq_true rfl, Nat.le_of_ble_eq_true rfl⟩) (x_preV hK hP h00 (by decide) rfl) rfl rfl hl.1 rfl (lv_room (Nat.le_of_ble_eq_true rfl)) dL_arcs_232 ⟨Nat.le_of_ble_eq_true rfl, Nat.le_of_ble_eq_true rfl⟩) hS (fun r232 E1_18 H locs q232 hP hS => ?_)
                        obtain ⟨q232, hX, -⟩ := q232
                        have h00 := hX.at0
                        obtain rfl : r232 = arN (zM z) w a b c (zM z 0 p) 0 := v_arU hv hk hi hj hs.rot hw2 (ask_p hvM hpn hw2 (by decide)) ⟨hu.2.2, hu.1, hu.2.1⟩ q232
                        refine x_sl (va_runS (As := [.long (arN (zM z) w a b c (zM z 0 p) 0)]) (rest := [.long (upR (zM z) a b c w p)]) S (c_L_upper l g E1_18 (arN (zM z) w a b c (zM z 0 p) 0)) (va_cwS 1 S.2.2.2.2 gL_arcs_L_upper rfl rfl rfl (by decide +kernel) ⟨Nat.le_of_ble_eq_true rfl, Nat.le_of_ble_eq_true rfl⟩) (x_preS hK hP) rfl rfl hl.1 rfl (lv_room (Nat.le_of_ble_eq_true rfl)) dL_arcs_235 ⟨Nat.le_of_ble_eq_true rfl, Nat.le_of_ble_eq_true rfl⟩) (fun r235 hr235 => ?_)
                        obtain rfl : r235 = (arN (zM z) w a b c (zM z 0 p) 0) - 10000000000 := hr235
                        refine W.lcmp S.1 S.2.1 dL_arcs_238 ?_
                        refine lv_if_eq (tgt := 244) S.1 S.2.1 dL_arcs_239 (by decide) (fun c239 => ?_) (fun c239 => ?_)
                        · skip
                          refine lv_iload S.1 S.2.1 dL_arcs_244 (lv_at hl 5 rfl) ?_
                          refine lv_iload_n S.1 S.2.1 dL_arcs_246 rfl (lv_at hl 8 rfl) ?_
                          refine lv_icmp_eq (tgt := 262) S.1 S.2.1 dL_arcs_247 (by decide) (fun c247 => ?_) (fun c247 => ?_)
                          · skip
                            have how := apR_own (w := w) hvM g1 g2 g3 hpn hw2 (hs.in3 (Or.inl (heldU hn hpn hi c247)))
                            refine lv_lload S.1 S.2.1 dL_arcs_262 (lv_at hl 0 rfl) ?_
                            refine lv_lconst (v := 0) S.1 S.2.1 dL_arcs_264 rfl ?_
                            refine W.lcmp S.1 S.2.1 dL_arcs_265 ?_
                            refine lv_if_eq (tgt := 271) S.1 S.2.1 dL_arcs_266 (by decide) (fun c266 => ?_) (fun c266 => ?_)
                            · skip
                              refine lv_iload S.1 S.2.1 dL_arcs_271 (lv_at hl 4 rfl) ?_
                              refine lv_lload S.1 S.2.1 dL_arcs_273 (lv_at hl 0 rfl) ?_
                              refine lv_lconst (v := 0) S.1 S.2.1 dL_arcs_275 rfl ?_
                              refine W.lcmp S.1 S.2.1 dL_arcs_276 ?_
                              refine lv_if_ge (tgt := 286) S.1 S.2.1 dL_arcs_277 (by decide) (fun c277 => ?_) (fun c277 => ?_)
                              · skip
                                refine lv_lload S.1 S.2.1 dL_arcs_286 (lv_at hl 0 rfl) ?_
                                refine lv_aload_n S.1 S.2.1 dL_arcs_288 rfl (lv_at hl 7 rfl) ?_
                                refine lv_iload S.1 S.2.1 dL_arcs_289 (lv_at hl 5 rfl) ?_
                                refine lv_iconst (v := 3) S.1 S.2.1 dL_arcs_291 (by decide) ?_
                                refine x_qi (va_runV (As := [.int (nI p), .int 3]) (rest := [.long (apR (zM z) a b c w p), .int (bI (hW (zM z) a b c p w))]) S (c_X6_photo l g hJ E1_18 hX hv (nI p) 3) (cwV 2 S.2.2.2.2 gL_arcs_X6_photo rfl rfl rfl (by decide +kernel) ⟨Nat.le_of_ble_eq_true rfl, Nat.le_of_ble_eq_true rfl⟩) (x_preV hK hP h00 (by decide) rfl) rfl rfl hl.1 rfl (lv_room (Nat.le_of_ble_eq_true rfl)) dL_arcs_292 ⟨Nat.le_of_ble_eq_true rfl, Nat.le_of_ble_eq_true rfl⟩) hS (fun r292 E1_19 H locs q292 hP hS => ?_)
                                obtain ⟨q292, hX, -⟩ := q292
                                have h00 := hX.at0
                                obtain rfl : r292 = (zM z) 3 p := v_ph3 hv hpn q292
                                refine lv_i2l (v := ((zM z) 3 p).toInt64) S.1 S.2.1 dL_arcs_295 rfl ?_
                                refine lv_lload S.1 S.2.1 dL_arcs_296 (lv_at hl 1 rfl) ?_
                                refine lv_lmul S.1 S.2.1 dL_arcs_298 ?_
                                refine W.lcmp S.1 S.2.1 dL_arcs_299 ?_
                                refine lv_if_gt (tgt := 307) S.1 S.2.1 dL_arcs_300 (by decide) (fun c300 => ?_) (fun c300 => ?_)
                                · skip
                                  refine lv_iconst (v := 0) S.1 S.2.1 dL_arcs_307 (by decide) ?_
                                  refine lv_iand S.1 S.2.1 dL_arcs_308 ?_
                                  refine W.eq (g2 := F0 m 309 ls [.int (bI (hW (zM z) a b c p (w + 1)))]) (by rw [hW_f (abR_pn (Int64.not_lt.mpr ((lg_cmp_ge _ _).mp c277)) (Int64.not_le.mpr ((lg_cmp_gt _ _).mp c300)))]) ?_
                                  refine lv_istore (lv' := [(6, .int (bI (hW (zM z) a b c p (w + 1)))), (12, .long (apR (zM z) a b c w p)), (10, .long (dnR (zM z) a b c w p)), (8, .long (upR (zM z) a b c w p)), (7, .int (nI w)), (5, .int (nI p)), (4, .int (nI (mk (fun q => pU (zM z) q && hitB (zM z) a b c q) (zn z)))), (0, .ref (xad g 0)), (1, .int (nI i)), (2, .int (nI j)), (3, .int (nI k))]) S.1 S.2.1 dL_arcs_309 hl (by decide) rfl (fun ls hl => ?_)
                                  refine lv_iinc (v := nI (w + 1)) (lv' := [(7, .int (nI (w + 1))), (6, .int (bI (hW (zM z) a b c p (w + 1)))), (12, .long (apR (zM z) a b c w p)), (10, .long (dnR (zM z) a b c w p)), (8, .long (upR (zM z) a b c w p)), (5, .int (nI p)), (4, .int (nI (mk (fun q => pU (zM z) q && hitB (zM z) a b c q) (zn z)))), (0, .ref (xad g 0)), (1, .int (nI i)), (2, .int (nI j)), (3, .int (nI k))]) S.1 S.2.1 dL_arcs_311 hl (k := 4) rfl (show nI w + Int32.ofInt 1 = _ from nI_1 _) (by decide) rfl (fun ls hl => ?_)
                                  refine lv_goto (tgt := 139) S.1 S.2.1 dL_arcs_314 (by decide) ?_
                                  exact ih139 (w + 1) _ _ _ (by omega) (by omega) hX h00 hP hS ls (lv_sub hl [0, 1, 5, 6, 7, 8, 9, 10] rfl)
                                · skip
                                  refine lv_iconst (v := 1) S.1 S.2.1 dL_arcs_303 (by decide) ?_
                                  refine lv_goto (tgt := 308) S.1 S.2.1 dL_arcs_304 (by decide) ?_
                                  refine lv_iand S.1 S.2.1 dL_arcs_308 ?_
                                  refine W.eq (g2 := F0 m 309 ls [.int (bI (hW (zM z) a b c p (w + 1)))]) (by rw [hW_t (abR_p (Int64.not_lt.mpr ((lg_cmp_ge _ _).mp c277)) (Int64.not_lt.mp (fun h => c300 ((lg_cmp_gt _ _).mpr h))))]) ?_
                                  refine lv_istore (lv' := [(6, .int (bI (hW (zM z) a b c p (w + 1)))), (12, .long (apR (zM z) a b c w p)), (10, .long (dnR (zM z) a b c w p)), (8, .long (upR (zM z) a b c w p)), (7, .int (nI w)), (5, .int (nI p)), (4, .int (nI (mk (fun q => pU (zM z) q && hitB (zM z) a b c q) (zn z)))), (0, .ref (xad g 0)), (1, .int (nI i)), (2, .int (nI j)), (3, .int (nI k))]) S.1 S.2.1 dL_arcs_309 hl (by decide) rfl (fun ls hl => ?_)
                                  refine lv_iinc (v := nI (w + 1)) (lv' := [(7, .int (nI (w + 1))), (6, .int (bI (hW (zM z) a b c p (w + 1)))), (12, .long (apR (zM z) a b c w p)), (10, .long (dnR (zM z) a b c w p)), (8, .long (upR (zM z) a b c w p)), (5, .int (nI p)), (4, .int (nI (mk (fun q => pU (zM z) q && hitB (zM z) a b c q) (zn z)))), (0, .ref (xad g 0)), (1, .int (nI i)), (2, .int (nI j)), (3, .int (nI k))]) S.1 S.2.1 dL_arcs_311 hl (k := 4) rfl (show nI w + Int32.ofInt 1 = _ from nI_1 _) (by decide) rfl (fun ls hl => ?_)
                                  refine lv_goto (tgt := 139) S.1 S.2.1 dL_arcs_314 (by decide) ?_
                                  exact ih139 (w + 1) _ _ _ (by omega) (by omega) hX h00 hP hS ls (lv_sub hl [0, 1, 5, 6, 7, 8, 9, 10] rfl)
                              · skip
                                refine lv_lload S.1 S.2.1 dL_arcs_280 (lv_at hl 0 rfl) ?_
                                refine lv_lneg S.1 S.2.1 dL_arcs_282 ?_
                                refine lv_goto (tgt := 288) S.1 S.2.1 dL_arcs_283 (by decide) ?_
                                refine lv_aload_n S.1 S.2.1 dL_arcs_288 rfl (lv_at hl 7 rfl) ?_
                                refine lv_iload S.1 S.2.1 dL_arcs_289 (lv_at hl 5 rfl) ?_
                                refine lv_iconst (v := 3) S.1 S.2.1 dL_arcs_291 (by decide) ?_
                                refine x_qi (va_runV (As := [.int (nI p), .int 3]) (rest := [.long (-(apR (zM z) a b c w p)), .int (bI (hW (zM z) a b c p w))]) S (c_X6_photo l g hJ E1_18 hX hv (nI p) 3) (cwV 2 S.2.2.2.2 gL_arcs_X6_photo rfl rfl rfl (by decide +kernel) ⟨Nat.le_of_ble_eq_true rfl, Nat.le_of_ble_eq_true rfl⟩) (x_preV hK hP h00 (by decide) rfl) rfl rfl hl.1 rfl (lv_room (Nat.le_of_ble_eq_true rfl)) dL_arcs_292 ⟨Nat.le_of_ble_eq_true rfl, Nat.le_of_ble_eq_true rfl⟩) hS (fun r292 E1_20 H locs q292 hP hS => ?_)
                                obtain ⟨q292, hX, -⟩ := q292
                                have h00 := hX.at0
                                obtain rfl : r292 = (zM z) 3 p := v_ph3 hv hpn q292
                                refine lv_i2l (v := ((zM z) 3 p).toInt64) S.1 S.2.1 dL_arcs_295 rfl ?_
                                refine lv_lload S.1 S.2.1 dL_arcs_296 (lv_at hl 1 rfl) ?_
                                refine lv_lmul S.1 S.2.1 dL_arcs_298 ?_
                                refine W.lcmp S.1 S.2.1 dL_arcs_299 ?_
                                refine lv_if_gt (tgt := 307) S.1 S.2.1 dL_arcs_300 (by decide) (fun c300 => ?_) (fun c300 => ?_)
                                · skip
                                  refine lv_iconst (v := 0) S.1 S.2.1 dL_arcs_307 (by decide) ?_
                                  refine lv_iand S.1 S.2.1 dL_arcs_308 ?_
                                  refine W.eq (g2 := F0 m 309 ls [.int (bI (hW (zM z) a b c p (w + 1)))]) (by rw [hW_f (abR_nn (Int64.not_le.mp (fun h => c277 ((lg_cmp_ge _ _).mpr h))) (Int64.not_le.mpr ((lg_cmp_gt _ _).mp c300)))]) ?_
                                  refine lv_istore (lv' := [(6, .int (bI (hW (zM z) a b c p (w + 1)))), (12, .long (apR (zM z) a b c w p)), (10, .long (dnR (zM z) a b c w p)), (8, .long (upR (zM z) a b c w p)), (7, .int (nI w)), (5, .int (nI p)), (4, .int (nI (mk (fun q => pU (zM z) q && hitB (zM z) a b c q) (zn z)))), (0, .ref (xad g 0)), (1, .int (nI i)), (2, .int (nI j)), (3, .int (nI k))]) S.1 S.2.1 dL_arcs_309 hl (by decide) rfl (fun ls hl => ?_)
                                  refine lv_iinc (v := nI (w + 1)) (lv' := [(7, .int (nI (w + 1))), (6, .int (bI (hW (zM z) a b c p (w + 1)))), (12, .long (apR (zM z) a b c w p)), (10, .long (dnR (zM z) a b c w p)), (8, .long (upR (zM z) a b c w p)), (5, .int (nI p)), (4, .int (nI (mk (fun q => pU (zM z) q && hitB (zM z) a b c q) (zn z)))), (0, .ref (xad g 0)), (1, .int (nI i)), (2, .int (nI j)), (3, .int (nI k))]) S.1 S.2.1 dL_arcs_311 hl (k := 4) rfl (show nI w + Int32.ofInt 1 = _ from nI_1 _) (by decide) rfl (fun ls hl => ?_)
                                  refine lv_goto (tgt := 139) S.1 S.2.1 dL_arcs_314 (by decide) ?_
                                  exact ih139 (w + 1) _ _ _ (by omega) (by omega) hX h00 hP hS ls (lv_sub hl [0, 1, 5, 6, 7, 8, 9, 10] rfl)
                                · skip
                                  refine lv_iconst (v := 1) S.1 S.2.1 dL_arcs_303 (by decide) ?_
                                  refine lv_goto (tgt := 308) S.1 S.2.1 dL_arcs_304 (by decide) ?_
                                  refine lv_iand S.1 S.2.1 dL_arcs_308 ?_
                                  refine W.eq (g2 := F0 m 309 ls [.int (bI (hW (zM z) a b c p (w + 1)))]) (by rw [hW_t (abR_n (Int64.not_le.mp (fun h => c277 ((lg_cmp_ge _ _).mpr h))) (Int64.not_lt.mp (fun h => c300 ((lg_cmp_gt _ _).mpr h))))]) ?_
                                  refine lv_istore (lv' := [(6, .int (bI (hW (zM z) a b c p (w + 1)))), (12, .long (apR (zM z) a b c w p)), (10, .long (dnR (zM z) a b c w p)), (8, .long (upR (zM z) a b c w p)), (7, .int (nI w)), (5, .int (nI p)), (4, .int (nI (mk (fun q => pU (zM z) q && hitB (zM z) a b c q) (zn z)))), (0, .ref (xad g 0)), (1, .int (nI i)), (2, .int (nI j)), (3, .int (nI k))]) S.1 S.2.1 dL_arcs_309 hl (by decide) rfl (fun ls hl => ?_)
                                  refine lv_iinc (v := nI (w + 1)) (lv' := [(7, .int (nI (w + 1))), (6, .int (bI (hW (zM z) a b c p (w + 1)))), (12, .long (apR (zM z) a b c w p)), (10, .long (dnR (zM z) a b c w p)), (8, .long (upR (zM z) a b c w p)), (5, .int (nI p)), (4, .int (nI (mk (fun q => pU (zM z) q && hitB (zM z) a b c q) (zn z)))), (0, .ref (xad g 0)), (1, .int (nI i)), (2, .int (nI j)), (3, .int (nI k))]) S.1 S.2.1 dL_arcs_311 hl (k := 4) rfl (show nI w + Int32.ofInt 1 = _ from nI_1 _) (by decide) rfl (fun ls hl => ?_)
                                  refine lv_goto (tgt := 139) S.1 S.2.1 dL_arcs_314 (by decide) ?_
                                  exact ih139 (w + 1) _ _ _ (by omega) (by omega) hX h00 hP hS ls (lv_sub hl [0, 1, 5, 6, 7, 8, 9, 10] rfl)
                            · skip
                              exact absurd ((lg_cmp_eq _ _).mpr how) c266
                          · skip
                            refine lv_iload S.1 S.2.1 dL_arcs_250 (lv_at hl 5 rfl) ?_
                            refine lv_iload_n S.1 S.2.1 dL_arcs_252 rfl (lv_at hl 9 rfl) ?_
                            refine lv_icmp_eq (tgt := 262) S.1 S.2.1 dL_arcs_253 (by decide) (fun c253 => ?_) (fun c253 => ?_)
                            · skip
                              have how := apR_own (w := w) hvM g1 g2 g3 hpn hw2 (hs.in3 (Or.inr (Or.inl (heldU hn hpn hj c253))))
                              refine lv_lload S.1 S.2.1 dL_arcs_262 (lv_at hl 0 rfl) ?_
                              refine lv_lconst (v := 0) S.1 S.2.1 dL_arcs_264 rfl ?_
                              refine W.lcmp S.1 S.2.1 dL_arcs_265 ?_
                              refine lv_if_eq (tgt := 271) S.1 S.2.1 dL_arcs_266 (by decide) (fun c266 => ?_) (fun c266 => ?_)
                              · skip
                                refine lv_iload S.1 S.2.1 dL_arcs_271 (lv_at hl 4 rfl) ?_
                                refine lv_lload S.1 S.2.1 dL_arcs_273 (lv_at hl 0 rfl) ?_
                                refine lv_lconst (v := 0) S.1 S.2.1 dL_arcs_275 rfl ?_
                                refine W.lcmp S.1 S.2.1 dL_arcs_276 ?_
                                refine lv_if_ge (tgt := 286) S.1 S.2.1 dL_arcs_277 (by decide) (fun c277 => ?_) (fun c277 => ?_)
                                · skip
                                  refine lv_lload S.1 S.2.1 dL_arcs_286 (lv_at hl 0 rfl) ?_
                                  refine lv_aload_n S.1 S.2.1 dL_arcs_288 rfl (lv_at hl 7 rfl) ?_
                                  refine lv_iload S.1 S.2.1 dL_arcs_289 (lv_at hl 5 rfl) ?_
                                  refine lv_iconst (v := 3) S.1 S.2.1 dL_arcs_291 (by decide) ?_
                                  refine x_qi (va_runV (As := [.int (nI p), .int 3]) (rest := [.long (apR (zM z) a b c w p), .int (bI (hW (zM z) a b c p w))]) S (c_X6_photo l g hJ E1_18 hX hv (nI p) 3) (cwV 2 S.2.2.2.2 gL_arcs_X6_photo rfl rfl rfl (by decide +kernel) ⟨Nat.le_of_ble_eq_true rfl, Nat.le_of_ble_eq_true rfl⟩) (x_preV hK hP h00 (by decide) rfl) rfl rfl hl.1 rfl (lv_room (Nat.le_of_ble_eq_true rfl)) dL_arcs_292 ⟨Nat.le_of_ble_eq_true rfl, Nat.le_of_ble_eq_true rfl⟩) hS (fun r292 E1_21 H locs q292 hP hS => ?_)
                                  obtain ⟨q292, hX, -⟩ := q292
                                  have h00 := hX.at0
                                  obtain rfl : r292 = (zM z) 3 p := v_ph3 hv hpn q292
                                  refine lv_i2l (v := ((zM z) 3 p).toInt64) S.1 S.2.1 dL_arcs_295 rfl ?_
                                  refine lv_lload S.1 S.2.1 dL_arcs_296 (lv_at hl 1 rfl) ?_
                                  refine lv_lmul S.1 S.2.1 dL_arcs_298 ?_
                                  refine W.lcmp S.1 S.2.1 dL_arcs_299 ?_
                                  refine lv_if_gt (tgt := 307) S.1 S.2.1 dL_arcs_300 (by decide) (fun c300 => ?_) (fun c300 => ?_)
                                  · skip
                                    refine lv_iconst (v := 0) S.1 S.2.1 dL_arcs_307 (by decide) ?_
                                    refine lv_iand S.1 S.2.1 dL_arcs_308 ?_
                                    refine W.eq (g2 := F0 m 309 ls [.int (bI (hW (zM z) a b c p (w + 1)))]) (by rw [hW_f (abR_pn (Int64.not_lt.mpr ((lg_cmp_ge _ _).mp c277)) (Int64.not_le.mpr ((lg_cmp_gt _ _).mp c300)))]) ?_
                                    refine lv_istore (lv' := [(6, .int (bI (hW (zM z) a b c p (w + 1)))), (12, .long (apR (zM z) a b c w p)), (10, .long (dnR (zM z) a b c w p)), (8, .long (upR (zM z) a b c w p)), (7, .int (nI w)), (5, .int (nI p)), (4, .int (nI (mk (fun q => pU (zM z) q && hitB (zM z) a b c q) (zn z)))), (0, .ref (xad g 0)), (1, .int (nI i)), (2, .int (nI j)), (3, .int (nI k))]) S.1 S.2.1 dL_arcs_309 hl (by decide) rfl (fun ls hl => ?_)
                                    refine lv_iinc (v := nI (w + 1)) (lv' := [(7, .int (nI (w + 1))), (6, .int (bI (hW (zM z) a b c p (w + 1)))), (12, .long (apR (zM z) a b c w p)), (10, .long (dnR (zM z) a b c w p)), (8, .long (upR (zM z) a b c w p)), (5, .int (nI p)), (4, .int (nI (mk (fun q => pU (zM z) q && hitB (zM z) a b c q) (zn z)))), (0, .ref (xad g 0)), (1, .int (nI i)), (2, .int (nI j)), (3, .int (nI k))]) S.1 S.2.1 dL_arcs_311 hl (k := 4) rfl (show nI w + Int32.ofInt 1 = _ from nI_1 _) (by decide) rfl (fun ls hl => ?_)
                                    refine lv_goto (tgt := 139) S.1 S.2.1 dL_arcs_314 (by decide) ?_
                                    exact ih139 (w + 1) _ _ _ (by omega) (by omega) hX h00 hP hS ls (lv_sub hl [0, 1, 5, 6, 7, 8, 9, 10] rfl)
                                  · skip
                                    refine lv_iconst (v := 1) S.1 S.2.1 dL_arcs_303 (by decide) ?_
                                    refine lv_goto (tgt := 308) S.1 S.2.1 dL_arcs_304 (by decide) ?_
                                    refine lv_iand S.1 S.2.1 dL_arcs_308 ?_
                                    refine W.eq (g2 := F0 m 309 ls [.int (bI (hW (zM z) a b c p (w + 1)))]) (by rw [hW_t (abR_p (Int64.not_lt.mpr ((lg_cmp_ge _ _).mp c277)) (Int64.not_lt.mp (fun h => c300 ((lg_cmp_gt _ _).mpr h))))]) ?_
                                    refine lv_istore (lv' := [(6, .int (bI (hW (zM z) a b c p (w + 1)))), (12, .long (apR (zM z) a b c w p)), (10, .long (dnR (zM z) a b c w p)), (8, .long (upR (zM z) a b c w p)), (7, .int (nI w)), (5, .int (nI p)), (4, .int (nI (mk (fun q => pU (zM z) q && hitB (zM z) a b c q) (zn z)))), (0, .ref (xad g 0)), (1, .int (nI i)), (2, .int (nI j)), (3, .int (nI k))]) S.1 S.2.1 dL_arcs_309 hl (by decide) rfl (fun ls hl => ?_)
                                    refine lv_iinc (v := nI (w + 1)) (lv' := [(7, .int (nI (w + 1))), (6, .int (bI (hW (zM z) a b c p (w + 1)))), (12, .long (apR (zM z) a b c w p)), (10, .long (dnR (zM z) a b c w p)), (8, .long (upR (zM z) a b c w p)), (5, .int (nI p)), (4, .int (nI (mk (fun q => pU (zM z) q && hitB (zM z) a b c q) (zn z)))), (0, .ref (xad g 0)), (1, .int (nI i)), (2, .int (nI j)), (3, .int (nI k))]) S.1 S.2.1 dL_arcs_311 hl (k := 4) rfl (show nI w + Int32.ofInt 1 = _ from nI_1 _) (by decide) rfl (fun ls hl => ?_)
                                    refine lv_goto (tgt := 139) S.1 S.2.1 dL_arcs_314 (by decide) ?_
                                    exact ih139 (w + 1) _ _ _ (by omega) (by omega) hX h00 hP hS ls (lv_sub hl [0, 1, 5, 6, 7, 8, 9, 10] rfl)
                                · skip
                                  refine lv_lload S.1 S.2.1 dL_arcs_280 (lv_at hl 0 rfl) ?_
                                  refine lv_lneg S.1 S.2.1 dL_arcs_282 ?_
                                  refine lv_goto (tgt := 288) S.1 S.2.1 dL_arcs_283 (by decide) ?_
                                  refine lv_aload_n S.1 S.2.1 dL_arcs_288 rfl (lv_at hl 7 rfl) ?_
                                  refine lv_iload S.1 S.2.1 dL_arcs_289 (lv_at hl 5 rfl) ?_
                                  refine lv_iconst (v := 3) S.1 S.2.1 dL_arcs_291 (by decide) ?_
                                  refine x_qi (va_runV (As := [.int (nI p), .int 3]) (rest := [.long (-(apR (zM z) a b c w p)), .int (bI (hW (zM z) a b c p w))]) S (c_X6_photo l g hJ E1_18 hX hv (nI p) 3) (cwV 2 S.2.2.2.2 gL_arcs_X6_photo rfl rfl rfl (by decide +kernel) ⟨Nat.le_of_ble_eq_true rfl, Nat.le_of_ble_eq_true rfl⟩) (x_preV hK hP h00 (by decide) rfl) rfl rfl hl.1 rfl (lv_room (Nat.le_of_ble_eq_true rfl)) dL_arcs_292 ⟨Nat.le_of_ble_eq_true rfl, Nat.le_of_ble_eq_true rfl⟩) hS (fun r292 E1_22 H locs q292 hP hS => ?_)
                                  obtain ⟨q292, hX, -⟩ := q292
                                  have h00 := hX.at0
                                  obtain rfl : r292 = (zM z) 3 p := v_ph3 hv hpn q292
                                  refine lv_i2l (v := ((zM z) 3 p).toInt64) S.1 S.2.1 dL_arcs_295 rfl ?_
                                  refine lv_lload S.1 S.2.1 dL_arcs_296 (lv_at hl 1 rfl) ?_
                                  refine lv_lmul S.1 S.2.1 dL_arcs_298 ?_
                                  refine W.lcmp S.1 S.2.1 dL_arcs_299 ?_
                                  refine lv_if_gt (tgt := 307) S.1 S.2.1 dL_arcs_300 (by decide) (fun c300 => ?_) (fun c300 => ?_)
                                  · skip
                                    refine lv_iconst (v := 0) S.1 S.2.1 dL_arcs_307 (by decide) ?_
                                    refine lv_iand S.1 S.2.1 dL_arcs_308 ?_
                                    refine W.eq (g2 := F0 m 309 ls [.int (bI (hW (zM z) a b c p (w + 1)))]) (by rw [hW_f (abR_nn (Int64.not_le.mp (fun h => c277 ((lg_cmp_ge _ _).mpr h))) (Int64.not_le.mpr ((lg_cmp_gt _ _).mp c300)))]) ?_
                                    refine lv_istore (lv' := [(6, .int (bI (hW (zM z) a b c p (w + 1)))), (12, .long (apR (zM z) a b c w p)), (10, .long (dnR (zM z) a b c w p)), (8, .long (upR (zM z) a b c w p)), (7, .int (nI w)), (5, .int (nI p)), (4, .int (nI (mk (fun q => pU (zM z) q && hitB (zM z) a b c q) (zn z)))), (0, .ref (xad g 0)), (1, .int (nI i)), (2, .int (nI j)), (3, .int (nI k))]) S.1 S.2.1 dL_arcs_309 hl (by decide) rfl (fun ls hl => ?_)
                                    refine lv_iinc (v := nI (w + 1)) (lv' := [(7, .int (nI (w + 1))), (6, .int (bI (hW (zM z) a b c p (w + 1)))), (12, .long (apR (zM z) a b c w p)), (10, .long (dnR (zM z) a b c w p)), (8, .long (upR (zM z) a b c w p)), (5, .int (nI p)), (4, .int (nI (mk (fun q => pU (zM z) q && hitB (zM z) a b c q) (zn z)))), (0, .ref (xad g 0)), (1, .int (nI i)), (2, .int (nI j)), (3, .int (nI k))]) S.1 S.2.1 dL_arcs_311 hl (k := 4) rfl (show nI w + Int32.ofInt 1 = _ from nI_1 _) (by decide) rfl (fun ls hl => ?_)
                                    refine lv_goto (tgt := 139) S.1 S.2.1 dL_arcs_314 (by decide) ?_
                                    exact ih139 (w + 1) _ _ _ (by omega) (by omega) hX h00 hP hS ls (lv_sub hl [0, 1, 5, 6, 7, 8, 9, 10] rfl)
                                  · skip
                                    refine lv_iconst (v := 1) S.1 S.2.1 dL_arcs_303 (by decide) ?_
                                    refine lv_goto (tgt := 308) S.1 S.2.1 dL_arcs_304 (by decide) ?_
                                    refine lv_iand S.1 S.2.1 dL_arcs_308 ?_
                                    refine W.eq (g2 := F0 m 309 ls [.int (bI (hW (zM z) a b c p (w + 1)))]) (by rw [hW_t (abR_n (Int64.not_le.mp (fun h => c277 ((lg_cmp_ge _ _).mpr h))) (Int64.not_lt.mp (fun h => c300 ((lg_cmp_gt _ _).mpr h))))]) ?_
                                    refine lv_istore (lv' := [(6, .int (bI (hW (zM z) a b c p (w + 1)))), (12, .long (apR (zM z) a b c w p)), (10, .long (dnR (zM z) a b c w p)), (8, .long (upR (zM z) a b c w p)), (7, .int (nI w)), (5, .int (nI p)), (4, .int (nI (mk (fun q => pU (zM z) q && hitB (zM z) a b c q) (zn z)))), (0, .ref (xad g 0)), (1, .int (nI i)), (2, .int (nI j)), (3, .int (nI k))]) S.1 S.2.1 dL_arcs_309 hl (by decide) rfl (fun ls hl => ?_)
                                    refine lv_iinc (v := nI (w + 1)) (lv' := [(7, .int (nI (w + 1))), (6, .int (bI (hW (zM z) a b c p (w + 1)))), (12, .long (apR (zM z) a b c w p)), (10, .long (dnR (zM z) a b c w p)), (8, .long (upR (zM z) a b c w p)), (5, .int (nI p)), (4, .int (nI (mk (fun q => pU (zM z) q && hitB (zM z) a b c q) (zn z)))), (0, .ref (xad g 0)), (1, .int (nI i)), (2, .int (nI j)), (3, .int (nI k))]) S.1 S.2.1 dL_arcs_311 hl (k := 4) rfl (show nI w + Int32.ofInt 1 = _ from nI_1 _) (by decide) rfl (fun ls hl => ?_)
                                    refine lv_goto (tgt := 139) S.1 S.2.1 dL_arcs_314 (by decide) ?_
                                    exact ih139 (w + 1) _ _ _ (by omega) (by omega) hX h00 hP hS ls (lv_sub hl [0, 1, 5, 6, 7, 8, 9, 10] rfl)
                              · skip
                                exact absurd ((lg_cmp_eq _ _).mpr how) c266
                            · skip
                              refine lv_iload S.1 S.2.1 dL_arcs_256 (lv_at hl 5 rfl) ?_
                              refine lv_iload_n S.1 S.2.1 dL_arcs_258 rfl (lv_at hl 10 rfl) ?_
                              refine lv_icmp_ne (tgt := 271) S.1 S.2.1 dL_arcs_259 (by decide) (fun c259 => ?_) (fun c259 => ?_)
                              · skip
                                refine lv_iload S.1 S.2.1 dL_arcs_271 (lv_at hl 4 rfl) ?_
                                refine lv_lload S.1 S.2.1 dL_arcs_273 (lv_at hl 0 rfl) ?_
                                refine lv_lconst (v := 0) S.1 S.2.1 dL_arcs_275 rfl ?_
                                refine W.lcmp S.1 S.2.1 dL_arcs_276 ?_
                                refine lv_if_ge (tgt := 286) S.1 S.2.1 dL_arcs_277 (by decide) (fun c277 => ?_) (fun c277 => ?_)
                                · skip
                                  refine lv_lload S.1 S.2.1 dL_arcs_286 (lv_at hl 0 rfl) ?_
                                  refine lv_aload_n S.1 S.2.1 dL_arcs_288 rfl (lv_at hl 7 rfl) ?_
                                  refine lv_iload S.1 S.2.1 dL_arcs_289 (lv_at hl 5 rfl) ?_
                                  refine lv_iconst (v := 3) S.1 S.2.1 dL_arcs_291 (by decide) ?_
                                  refine x_qi (va_runV (As := [.int (nI p), .int 3]) (rest := [.long (apR (zM z) a b c w p), .int (bI (hW (zM z) a b c p w))]) S (c_X6_photo l g hJ E1_18 hX hv (nI p) 3) (cwV 2 S.2.2.2.2 gL_arcs_X6_photo rfl rfl rfl (by decide +kernel) ⟨Nat.le_of_ble_eq_true rfl, Nat.le_of_ble_eq_true rfl⟩) (x_preV hK hP h00 (by decide) rfl) rfl rfl hl.1 rfl (lv_room (Nat.le_of_ble_eq_true rfl)) dL_arcs_292 ⟨Nat.le_of_ble_eq_true rfl, Nat.le_of_ble_eq_true rfl⟩) hS (fun r292 E1_23 H locs q292 hP hS => ?_)
                                  obtain ⟨q292, hX, -⟩ := q292
                                  have h00 := hX.at0
                                  obtain rfl : r292 = (zM z) 3 p := v_ph3 hv hpn q292
                                  refine lv_i2l (v := ((zM z) 3 p).toInt64) S.1 S.2.1 dL_arcs_295 rfl ?_
                                  refine lv_lload S.1 S.2.1 dL_arcs_296 (lv_at hl 1 rfl) ?_
                                  refine lv_lmul S.1 S.2.1 dL_arcs_298 ?_
                                  refine W.lcmp S.1 S.2.1 dL_arcs_299 ?_
                                  refine lv_if_gt (tgt := 307) S.1 S.2.1 dL_arcs_300 (by decide) (fun c300 => ?_) (fun c300 => ?_)
                                  · skip
                                    refine lv_iconst (v := 0) S.1 S.2.1 dL_arcs_307 (by decide) ?_
                                    refine lv_iand S.1 S.2.1 dL_arcs_308 ?_
                                    refine W.eq (g2 := F0 m 309 ls [.int (bI (hW (zM z) a b c p (w + 1)))]) (by rw [hW_f (abR_pn (Int64.not_lt.mpr ((lg_cmp_ge _ _).mp c277)) (Int64.not_le.mpr ((lg_cmp_gt _ _).mp c300)))]) ?_
                                    refine lv_istore (lv' := [(6, .int (bI (hW (zM z) a b c p (w + 1)))), (12, .long (apR (zM z) a b c w p)), (10, .long (dnR (zM z) a b c w p)), (8, .long (upR (zM z) a b c w p)), (7, .int (nI w)), (5, .int (nI p)), (4, .int (nI (mk (fun q => pU (zM z) q && hitB (zM z) a b c q) (zn z)))), (0, .ref (xad g 0)), (1, .int (nI i)), (2, .int (nI j)), (3, .int (nI k))]) S.1 S.2.1 dL_arcs_309 hl (by decide) rfl (fun ls hl => ?_)
                                    refine lv_iinc (v := nI (w + 1)) (lv' := [(7, .int (nI (w + 1))), (6, .int (bI (hW (zM z) a b c p (w + 1)))), (12, .long (apR (zM z) a b c w p)), (10, .long (dnR (zM z) a b c w p)), (8, .long (upR (zM z) a b c w p)), (5, .int (nI p)), (4, .int (nI (mk (fun q => pU (zM z) q && hitB (zM z) a b c q) (zn z)))), (0, .ref (xad g 0)), (1, .int (nI i)), (2, .int (nI j)), (3, .int (nI k))]) S.1 S.2.1 dL_arcs_311 hl (k := 4) rfl (show nI w + Int32.ofInt 1 = _ from nI_1 _) (by decide) rfl (fun ls hl => ?_)
                                    refine lv_goto (tgt := 139) S.1 S.2.1 dL_arcs_314 (by decide) ?_
                                    exact ih139 (w + 1) _ _ _ (by omega) (by omega) hX h00 hP hS ls (lv_sub hl [0, 1, 5, 6, 7, 8, 9, 10] rfl)
                                  · skip
                                    refine lv_iconst (v := 1) S.1 S.2.1 dL_arcs_303 (by decide) ?_
                                    refine lv_goto (tgt := 308) S.1 S.2.1 dL_arcs_304 (by decide) ?_
                                    refine lv_iand S.1 S.2.1 dL_arcs_308 ?_
                                    refine W.eq (g2 := F0 m 309 ls [.int (bI (hW (zM z) a b c p (w + 1)))]) (by rw [hW_t (abR_p (Int64.not_lt.mpr ((lg_cmp_ge _ _).mp c277)) (Int64.not_lt.mp (fun h => c300 ((lg_cmp_gt _ _).mpr h))))]) ?_
                                    refine lv_istore (lv' := [(6, .int (bI (hW (zM z) a b c p (w + 1)))), (12, .long (apR (zM z) a b c w p)), (10, .long (dnR (zM z) a b c w p)), (8, .long (upR (zM z) a b c w p)), (7, .int (nI w)), (5, .int (nI p)), (4, .int (nI (mk (fun q => pU (zM z) q && hitB (zM z) a b c q) (zn z)))), (0, .ref (xad g 0)), (1, .int (nI i)), (2, .int (nI j)), (3, .int (nI k))]) S.1 S.2.1 dL_arcs_309 hl (by decide) rfl (fun ls hl => ?_)
                                    refine lv_iinc (v := nI (w + 1)) (lv' := [(7, .int (nI (w + 1))), (6, .int (bI (hW (zM z) a b c p (w + 1)))), (12, .long (apR (zM z) a b c w p)), (10, .long (dnR (zM z) a b c w p)), (8, .long (upR (zM z) a b c w p)), (5, .int (nI p)), (4, .int (nI (mk (fun q => pU (zM z) q && hitB (zM z) a b c q) (zn z)))), (0, .ref (xad g 0)), (1, .int (nI i)), (2, .int (nI j)), (3, .int (nI k))]) S.1 S.2.1 dL_arcs_311 hl (k := 4) rfl (show nI w + Int32.ofInt 1 = _ from nI_1 _) (by decide) rfl (fun ls hl => ?_)
                                    refine lv_goto (tgt := 139) S.1 S.2.1 dL_arcs_314 (by decide) ?_
                                    exact ih139 (w + 1) _ _ _ (by omega) (by omega) hX h00 hP hS ls (lv_sub hl [0, 1, 5, 6, 7, 8, 9, 10] rfl)
                                · skip
                                  refine lv_lload S.1 S.2.1 dL_arcs_280 (lv_at hl 0 rfl) ?_
                                  refine lv_lneg S.1 S.2.1 dL_arcs_282 ?_
                                  refine lv_goto (tgt := 288) S.1 S.2.1 dL_arcs_283 (by decide) ?_
                                  refine lv_aload_n S.1 S.2.1 dL_arcs_288 rfl (lv_at hl 7 rfl) ?_
                                  refine lv_iload S.1 S.2.1 dL_arcs_289 (lv_at hl 5 rfl) ?_
                                  refine lv_iconst (v := 3) S.1 S.2.1 dL_arcs_291 (by decide) ?_
                                  refine x_qi (va_runV (As := [.int (nI p), .int 3]) (rest := [.long (-(apR (zM z) a b c w p)), .int (bI (hW (zM z) a b c p w))]) S (c_X6_photo l g hJ E1_18 hX hv (nI p) 3) (cwV 2 S.2.2.2.2 gL_arcs_X6_photo rfl rfl rfl (by decide +kernel) ⟨Nat.le_of_ble_eq_true rfl, Nat.le_of_ble_eq_true rfl⟩) (x_preV hK hP h00 (by decide) rfl) rfl rfl hl.1 rfl (lv_room (Nat.le_of_ble_eq_true rfl)) dL_arcs_292 ⟨Nat.le_of_ble_eq_true rfl, Nat.le_of_ble_eq_true rfl⟩) hS (fun r292 E1_24 H locs q292 hP hS => ?_)
                                  obtain ⟨q292, hX, -⟩ := q292
                                  have h00 := hX.at0
                                  obtain rfl : r292 = (zM z) 3 p := v_ph3 hv hpn q292
                                  refine lv_i2l (v := ((zM z) 3 p).toInt64) S.1 S.2.1 dL_arcs_295 rfl ?_
                                  refine lv_lload S.1 S.2.1 dL_arcs_296 (lv_at hl 1 rfl) ?_
                                  refine lv_lmul S.1 S.2.1 dL_arcs_298 ?_
                                  refine W.lcmp S.1 S.2.1 dL_arcs_299 ?_
                                  refine lv_if_gt (tgt := 307) S.1 S.2.1 dL_arcs_300 (by decide) (fun c300 => ?_) (fun c300 => ?_)
                                  · skip
                                    refine lv_iconst (v := 0) S.1 S.2.1 dL_arcs_307 (by decide) ?_
                                    refine lv_iand S.1 S.2.1 dL_arcs_308 ?_
                                    refine W.eq (g2 := F0 m 309 ls [.int (bI (hW (zM z) a b c p (w + 1)))]) (by rw [hW_f (abR_nn (Int64.not_le.mp (fun h => c277 ((lg_cmp_ge _ _).mpr h))) (Int64.not_le.mpr ((lg_cmp_gt _ _).mp c300)))]) ?_
                                    refine lv_istore (lv' := [(6, .int (bI (hW (zM z) a b c p (w + 1)))), (12, .long (apR (zM z) a b c w p)), (10, .long (dnR (zM z) a b c w p)), (8, .long (upR (zM z) a b c w p)), (7, .int (nI w)), (5, .int (nI p)), (4, .int (nI (mk (fun q => pU (zM z) q && hitB (zM z) a b c q) (zn z)))), (0, .ref (xad g 0)), (1, .int (nI i)), (2, .int (nI j)), (3, .int (nI k))]) S.1 S.2.1 dL_arcs_309 hl (by decide) rfl (fun ls hl => ?_)
                                    refine lv_iinc (v := nI (w + 1)) (lv' := [(7, .int (nI (w + 1))), (6, .int (bI (hW (zM z) a b c p (w + 1)))), (12, .long (apR (zM z) a b c w p)), (10, .long (dnR (zM z) a b c w p)), (8, .long (upR (zM z) a b c w p)), (5, .int (nI p)), (4, .int (nI (mk (fun q => pU (zM z) q && hitB (zM z) a b c q) (zn z)))), (0, .ref (xad g 0)), (1, .int (nI i)), (2, .int (nI j)), (3, .int (nI k))]) S.1 S.2.1 dL_arcs_311 hl (k := 4) rfl (show nI w + Int32.ofInt 1 = _ from nI_1 _) (by decide) rfl (fun ls hl => ?_)
                                    refine lv_goto (tgt := 139) S.1 S.2.1 dL_arcs_314 (by decide) ?_
                                    exact ih139 (w + 1) _ _ _ (by omega) (by omega) hX h00 hP hS ls (lv_sub hl [0, 1, 5, 6, 7, 8, 9, 10] rfl)
                                  · skip
                                    refine lv_iconst (v := 1) S.1 S.2.1 dL_arcs_303 (by decide) ?_
                                    refine lv_goto (tgt := 308) S.1 S.2.1 dL_arcs_304 (by decide) ?_
                                    refine lv_iand S.1 S.2.1 dL_arcs_308 ?_
                                    refine W.eq (g2 := F0 m 309 ls [.int (bI (hW (zM z) a b c p (w + 1)))]) (by rw [hW_t (abR_n (Int64.not_le.mp (fun h => c277 ((lg_cmp_ge _ _).mpr h))) (Int64.not_lt.mp (fun h => c300 ((lg_cmp_gt _ _).mpr h))))]) ?_
                                    refine lv_istore (lv' := [(6, .int (bI (hW (zM z) a b c p (w + 1)))), (12, .long (apR (zM z) a b c w p)), (10, .long (dnR (zM z) a b c w p)), (8, .long (upR (zM z) a b c w p)), (7, .int (nI w)), (5, .int (nI p)), (4, .int (nI (mk (fun q => pU (zM z) q && hitB (zM z) a b c q) (zn z)))), (0, .ref (xad g 0)), (1, .int (nI i)), (2, .int (nI j)), (3, .int (nI k))]) S.1 S.2.1 dL_arcs_309 hl (by decide) rfl (fun ls hl => ?_)
                                    refine lv_iinc (v := nI (w + 1)) (lv' := [(7, .int (nI (w + 1))), (6, .int (bI (hW (zM z) a b c p (w + 1)))), (12, .long (apR (zM z) a b c w p)), (10, .long (dnR (zM z) a b c w p)), (8, .long (upR (zM z) a b c w p)), (5, .int (nI p)), (4, .int (nI (mk (fun q => pU (zM z) q && hitB (zM z) a b c q) (zn z)))), (0, .ref (xad g 0)), (1, .int (nI i)), (2, .int (nI j)), (3, .int (nI k))]) S.1 S.2.1 dL_arcs_311 hl (k := 4) rfl (show nI w + Int32.ofInt 1 = _ from nI_1 _) (by decide) rfl (fun ls hl => ?_)
                                    refine lv_goto (tgt := 139) S.1 S.2.1 dL_arcs_314 (by decide) ?_
                                    exact ih139 (w + 1) _ _ _ (by omega) (by omega) hX h00 hP hS ls (lv_sub hl [0, 1, 5, 6, 7, 8, 9, 10] rfl)
                              · skip
                                have how := apR_own (w := w) hvM g1 g2 g3 hpn hw2 (hs.in3 (Or.inr (Or.inr (heldU hn hpn hk c259))))
                                refine lv_lload S.1 S.2.1 dL_arcs_262 (lv_at hl 0 rfl) ?_
                                refine lv_lconst (v := 0) S.1 S.2.1 dL_arcs_264 rfl ?_
                                refine W.lcmp S.1 S.2.1 dL_arcs_265 ?_
                                refine lv_if_eq (tgt := 271) S.1 S.2.1 dL_arcs_266 (by decide) (fun c266 => ?_) (fun c266 => ?_)
                                · skip
                                  refine lv_iload S.1 S.2.1 dL_arcs_271 (lv_at hl 4 rfl) ?_
                                  refine lv_lload S.1 S.2.1 dL_arcs_273 (lv_at hl 0 rfl) ?_
                                  refine lv_lconst (v := 0) S.1 S.2.1 dL_arcs_275 rfl ?_
                                  refine W.lcmp S.1 S.2.1 dL_arcs_276 ?_
                                  refine lv_if_ge (tgt := 286) S.1 S.2.1 dL_arcs_277 (by decide) (fun c277 => ?_) (fun c277 => ?_)
                                  · skip
                                    refine lv_lload S.1 S.2.1 dL_arcs_286 (lv_at hl 0 rfl) ?_
                                    refine lv_aload_n S.1 S.2.1 dL_arcs_288 rfl (lv_at hl 7 rfl) ?_
                                    refine lv_iload S.1 S.2.1 dL_arcs_289 (lv_at hl 5 rfl) ?_
                                    refine lv_iconst (v := 3) S.1 S.2.1 dL_arcs_291 (by decide) ?_
                                    refine x_qi (va_runV (As := [.int (nI p), .int 3]) (rest := [.long (apR (zM z) a b c w p), .int (bI (hW (zM z) a b c p w))]) S (c_X6_photo l g hJ E1_18 hX hv (nI p) 3) (cwV 2 S.2.2.2.2 gL_arcs_X6_photo rfl rfl rfl (by decide +kernel) ⟨Nat.le_of_ble_eq_true rfl, Nat.le_of_ble_eq_true rfl⟩) (x_preV hK hP h00 (by decide) rfl) rfl rfl hl.1 rfl (lv_room (Nat.le_of_ble_eq_true rfl)) dL_arcs_292 ⟨Nat.le_of_ble_eq_true rfl, Nat.le_of_ble_eq_true rfl⟩) hS (fun r292 E1_25 H locs q292 hP hS => ?_)
                                    obtain ⟨q292, hX, -⟩ := q292
                                    have h00 := hX.at0
                                    obtain rfl : r292 = (zM z) 3 p := v_ph3 hv hpn q292
                                    refine lv_i2l (v := ((zM z) 3 p).toInt64) S.1 S.2.1 dL_arcs_295 rfl ?_
                                    refine lv_lload S.1 S.2.1 dL_arcs_296 (lv_at hl 1 rfl) ?_
                                    refine lv_lmul S.1 S.2.1 dL_arcs_298 ?_
                                    refine W.lcmp S.1 S.2.1 dL_arcs_299 ?_
                                    refine lv_if_gt (tgt := 307) S.1 S.2.1 dL_arcs_300 (by decide) (fun c300 => ?_) (fun c300 => ?_)
                                    · skip
                                      refine lv_iconst (v := 0) S.1 S.2.1 dL_arcs_307 (by decide) ?_
                                      refine lv_iand S.1 S.2.1 dL_arcs_308 ?_
                                      refine W.eq (g2 := F0 m 309 ls [.int (bI (hW (zM z) a b c p (w + 1)))]) (by rw [hW_f (abR_pn (Int64.not_lt.mpr ((lg_cmp_ge _ _).mp c277)) (Int64.not_le.mpr ((lg_cmp_gt _ _).mp c300)))]) ?_
                                      refine lv_istore (lv' := [(6, .int (bI (hW (zM z) a b c p (w + 1)))), (12, .long (apR (zM z) a b c w p)), (10, .long (dnR (zM z) a b c w p)), (8, .long (upR (zM z) a b c w p)), (7, .int (nI w)), (5, .int (nI p)), (4, .int (nI (mk (fun q => pU (zM z) q && hitB (zM z) a b c q) (zn z)))), (0, .ref (xad g 0)), (1, .int (nI i)), (2, .int (nI j)), (3, .int (nI k))]) S.1 S.2.1 dL_arcs_309 hl (by decide) rfl (fun ls hl => ?_)
                                      refine lv_iinc (v := nI (w + 1)) (lv' := [(7, .int (nI (w + 1))), (6, .int (bI (hW (zM z) a b c p (w + 1)))), (12, .long (apR (zM z) a b c w p)), (10, .long (dnR (zM z) a b c w p)), (8, .long (upR (zM z) a b c w p)), (5, .int (nI p)), (4, .int (nI (mk (fun q => pU (zM z) q && hitB (zM z) a b c q) (zn z)))), (0, .ref (xad g 0)), (1, .int (nI i)), (2, .int (nI j)), (3, .int (nI k))]) S.1 S.2.1 dL_arcs_311 hl (k := 4) rfl (show nI w + Int32.ofInt 1 = _ from nI_1 _) (by decide) rfl (fun ls hl => ?_)
                                      refine lv_goto (tgt := 139) S.1 S.2.1 dL_arcs_314 (by decide) ?_
                                      exact ih139 (w + 1) _ _ _ (by omega) (by omega) hX h00 hP hS ls (lv_sub hl [0, 1, 5, 6, 7, 8, 9, 10] rfl)
                                    · skip
                                      refine lv_iconst (v := 1) S.1 S.2.1 dL_arcs_303 (by decide) ?_
                                      refine lv_goto (tgt := 308) S.1 S.2.1 dL_arcs_304 (by decide) ?_
                                      refine lv_iand S.1 S.2.1 dL_arcs_308 ?_
                                      refine W.eq (g2 := F0 m 309 ls [.int (bI (hW (zM z) a b c p (w + 1)))]) (by rw [hW_t (abR_p (Int64.not_lt.mpr ((lg_cmp_ge _ _).mp c277)) (Int64.not_lt.mp (fun h => c300 ((lg_cmp_gt _ _).mpr h))))]) ?_
                                      refine lv_istore (lv' := [(6, .int (bI (hW (zM z) a b c p (w + 1)))), (12, .long (apR (zM z) a b c w p)), (10, .long (dnR (zM z) a b c w p)), (8, .long (upR (zM z) a b c w p)), (7, .int (nI w)), (5, .int (nI p)), (4, .int (nI (mk (fun q => pU (zM z) q && hitB (zM z) a b c q) (zn z)))), (0, .ref (xad g 0)), (1, .int (nI i)), (2, .int (nI j)), (3, .int (nI k))]) S.1 S.2.1 dL_arcs_309 hl (by decide) rfl (fun ls hl => ?_)
                                      refine lv_iinc (v := nI (w + 1)) (lv' := [(7, .int (nI (w + 1))), (6, .int (bI (hW (zM z) a b c p (w + 1)))), (12, .long (apR (zM z) a b c w p)), (10, .long (dnR (zM z) a b c w p)), (8, .long (upR (zM z) a b c w p)), (5, .int (nI p)), (4, .int (nI (mk (fun q => pU (zM z) q && hitB (zM z) a b c q) (zn z)))), (0, .ref (xad g 0)), (1, .int (nI i)), (2, .int (nI j)), (3, .int (nI k))]) S.1 S.2.1 dL_arcs_311 hl (k := 4) rfl (show nI w + Int32.ofInt 1 = _ from nI_1 _) (by decide) rfl (fun ls hl => ?_)
                                      refine lv_goto (tgt := 139) S.1 S.2.1 dL_arcs_314 (by decide) ?_
                                      exact ih139 (w + 1) _ _ _ (by omega) (by omega) hX h00 hP hS ls (lv_sub hl [0, 1, 5, 6, 7, 8, 9, 10] rfl)
                                  · skip
                                    refine lv_lload S.1 S.2.1 dL_arcs_280 (lv_at hl 0 rfl) ?_
                                    refine lv_lneg S.1 S.2.1 dL_arcs_282 ?_
                                    refine lv_goto (tgt := 288) S.1 S.2.1 dL_arcs_283 (by decide) ?_
                                    refine lv_aload_n S.1 S.2.1 dL_arcs_288 rfl (lv_at hl 7 rfl) ?_
                                    refine lv_iload S.1 S.2.1 dL_arcs_289 (lv_at hl 5 rfl) ?_
                                    refine lv_iconst (v := 3) S.1 S.2.1 dL_arcs_291 (by decide) ?_
                                    refine x_qi (va_runV (As := [.int (nI p), .int 3]) (rest := [.long (-(apR (zM z) a b c w p)), .int (bI (hW (zM z) a b c p w))]) S (c_X6_photo l g hJ E1_18 hX hv (nI p) 3) (cwV 2 S.2.2.2.2 gL_arcs_X6_photo rfl rfl rfl (by decide +kernel) ⟨Nat.le_of_ble_eq_true rfl, Nat.le_of_ble_eq_true rfl⟩) (x_preV hK hP h00 (by decide) rfl) rfl rfl hl.1 rfl (lv_room (Nat.le_of_ble_eq_true rfl)) dL_arcs_292 ⟨Nat.le_of_ble_eq_true rfl, Nat.le_of_ble_eq_true rfl⟩) hS (fun r292 E1_26 H locs q292 hP hS => ?_)
                                    obtain ⟨q292, hX, -⟩ := q292
                                    have h00 := hX.at0
                                    obtain rfl : r292 = (zM z) 3 p := v_ph3 hv hpn q292
                                    refine lv_i2l (v := ((zM z) 3 p).toInt64) S.1 S.2.1 dL_arcs_295 rfl ?_
                                    refine lv_lload S.1 S.2.1 dL_arcs_296 (lv_at hl 1 rfl) ?_
                                    refine lv_lmul S.1 S.2.1 dL_arcs_298 ?_
                                    refine W.lcmp S.1 S.2.1 dL_arcs_299 ?_
                                    refine lv_if_gt (tgt := 307) S.1 S.2.1 dL_arcs_300 (by decide) (fun c300 => ?_) (fun c300 => ?_)
                                    · skip
                                      refine lv_iconst (v := 0) S.1 S.2.1 dL_arcs_307 (by decide) ?_
                                      refine lv_iand S.1 S.2.1 dL_arcs_308 ?_
                                      refine W.eq (g2 := F0 m 309 ls [.int (bI (hW (zM z) a b c p (w + 1)))]) (by rw [hW_f (abR_nn (Int64.not_le.mp (fun h => c277 ((lg_cmp_ge _ _).mpr h))) (Int64.not_le.mpr ((lg_cmp_gt _ _).mp c300)))]) ?_
                                      refine lv_istore (lv' := [(6, .int (bI (hW (zM z) a b c p (w + 1)))), (12, .long (apR (zM z) a b c w p)), (10, .long (dnR (zM z) a b c w p)), (8, .long (upR (zM z) a b c w p)), (7, .int (nI w)), (5, .int (nI p)), (4, .int (nI (mk (fun q => pU (zM z) q && hitB (zM z) a b c q) (zn z)))), (0, .ref (xad g 0)), (1, .int (nI i)), (2, .int (nI j)), (3, .int (nI k))]) S.1 S.2.1 dL_arcs_309 hl (by decide) rfl (fun ls hl => ?_)
                                      refine lv_iinc (v := nI (w + 1)) (lv' := [(7, .int (nI (w + 1))), (6, .int (bI (hW (zM z) a b c p (w + 1)))), (12, .long (apR (zM z) a b c w p)), (10, .long (dnR (zM z) a b c w p)), (8, .long (upR (zM z) a b c w p)), (5, .int (nI p)), (4, .int (nI (mk (fun q => pU (zM z) q && hitB (zM z) a b c q) (zn z)))), (0, .ref (xad g 0)), (1, .int (nI i)), (2, .int (nI j)), (3, .int (nI k))]) S.1 S.2.1 dL_arcs_311 hl (k := 4) rfl (show nI w + Int32.ofInt 1 = _ from nI_1 _) (by decide) rfl (fun ls hl => ?_)
                                      refine lv_goto (tgt := 139) S.1 S.2.1 dL_arcs_314 (by decide) ?_
                                      exact ih139 (w + 1) _ _ _ (by omega) (by omega) hX h00 hP hS ls (lv_sub hl [0, 1, 5, 6, 7, 8, 9, 10] rfl)
                                    · skip
                                      refine lv_iconst (v := 1) S.1 S.2.1 dL_arcs_303 (by decide) ?_
                                      refine lv_goto (tgt := 308) S.1 S.2.1 dL_arcs_304 (by decide) ?_
                                      refine lv_iand S.1 S.2.1 dL_arcs_308 ?_
                                      refine W.eq (g2 := F0 m 309 ls [.int (bI (hW (zM z) a b c p (w + 1)))]) (by rw [hW_t (abR_n (Int64.not_le.mp (fun h => c277 ((lg_cmp_ge _ _).mpr h))) (Int64.not_lt.mp (fun h => c300 ((lg_cmp_gt _ _).mpr h))))]) ?_
                                      refine lv_istore (lv' := [(6, .int (bI (hW (zM z) a b c p (w + 1)))), (12, .long (apR (zM z) a b c w p)), (10, .long (dnR (zM z) a b c w p)), (8, .long (upR (zM z) a b c w p)), (7, .int (nI w)), (5, .int (nI p)), (4, .int (nI (mk (fun q => pU (zM z) q && hitB (zM z) a b c q) (zn z)))), (0, .ref (xad g 0)), (1, .int (nI i)), (2, .int (nI j)), (3, .int (nI k))]) S.1 S.2.1 dL_arcs_309 hl (by decide) rfl (fun ls hl => ?_)
                                      refine lv_iinc (v := nI (w + 1)) (lv' := [(7, .int (nI (w + 1))), (6, .int (bI (hW (zM z) a b c p (w + 1)))), (12, .long (apR (zM z) a b c w p)), (10, .long (dnR (zM z) a b c w p)), (8, .long (upR (zM z) a b c w p)), (5, .int (nI p)), (4, .int (nI (mk (fun q => pU (zM z) q && hitB (zM z) a b c q) (zn z)))), (0, .ref (xad g 0)), (1, .int (nI i)), (2, .int (nI j)), (3, .int (nI k))]) S.1 S.2.1 dL_arcs_311 hl (k := 4) rfl (show nI w + Int32.ofInt 1 = _ from nI_1 _) (by decide) rfl (fun ls hl => ?_)
                                      refine lv_goto (tgt := 139) S.1 S.2.1 dL_arcs_314 (by decide) ?_
                                      exact ih139 (w + 1) _ _ _ (by omega) (by omega) hX h00 hP hS ls (lv_sub hl [0, 1, 5, 6, 7, 8, 9, 10] rfl)
                                · skip
                                  exact absurd ((lg_cmp_eq _ _).mpr how) c266
                        · skip
                          exact absurd ((lg_cmp_eq _ _).mpr rfl) c239
                exact loop139 _ 0 _ _ _ (by omega) (Nat.lt_succ_self _) hX h00 hP hS ls (lv_sub hl [0, 1, 2, 3, 4, 5, 6, 7] rfl)
          exact loop123 _ 0 _ _ _ (Nat.zero_le _) (Nat.lt_succ_self _) hX h00 hP hS ls (lv_sub hl [0, 1, 2, 3, 4, 5] rfl)
        · skip
          refine lv_aload_n S.1 S.2.1 dL_arcs_76 rfl (lv_at hl 0 rfl) ?_
          refine lv_iload_n S.1 S.2.1 dL_arcs_77 rfl (lv_at hl 1 rfl) ?_
          refine lv_iload_n S.1 S.2.1 dL_arcs_78 rfl (lv_at hl 2 rfl) ?_
          refine lv_iload_n S.1 S.2.1 dL_arcs_79 rfl (lv_at hl 3 rfl) ?_
          refine x_qi (va_runV (As := [.int (nI i), .int (nI j), .int (nI k)]) (rest := []) S (c_X6_hits l g hJ E1_6 hX hv (nI i) (nI j) (nI k)) (cwV 3 S.2.2.2.2 gL_arcs_X6_hits rfl rfl rfl (by decide +kernel) ⟨Nat.le_of_ble_eq_true rfl, Nat.le_of_ble_eq_true rfl⟩) (x_preV hK hP h00 (by decide) rfl) rfl rfl hl.1 rfl (lv_room (Nat.le_of_ble_eq_true rfl)) dL_arcs_80 ⟨Nat.le_of_ble_eq_true rfl, Nat.le_of_ble_eq_true rfl⟩) hS (fun r80 E1_27 H locs q80 hP hS => ?_)
          obtain ⟨q80, hX, -⟩ := q80
          have h00 := hX.at0
          obtain rfl : r80 = -4 := v_ht4 hv hi hj hk hs (fun h => c73 ((s6 hvM hi hj hk).mpr h)) q80
          refine lv_bipush (v := (-4)) S.1 S.2.1 dL_arcs_83 (by decide) ?_
          refine lv_icmp_ne (tgt := 109) S.1 S.2.1 dL_arcs_85 (by decide) (fun c85 => ?_) (fun c85 => ?_)
          · skip
            exact absurd c85 (by decide)
          · skip
            refine lv_aload_n S.1 S.2.1 dL_arcs_88 rfl (lv_at hl 0 rfl) ?_
            refine lv_iload_n S.1 S.2.1 dL_arcs_89 rfl (lv_at hl 1 rfl) ?_
            refine lv_iload_n S.1 S.2.1 dL_arcs_90 rfl (lv_at hl 2 rfl) ?_
            refine lv_iload_n S.1 S.2.1 dL_arcs_91 rfl (lv_at hl 3 rfl) ?_
            refine lv_iconst (v := 0) S.1 S.2.1 dL_arcs_92 (by decide) ?_
            refine lv_iconst (v := 0) S.1 S.2.1 dL_arcs_93 (by decide) ?_
            refine lv_iconst (v := 0) S.1 S.2.1 dL_arcs_94 (by decide) ?_
            refine x_ql (va_runV (As := [.int (nI i), .int (nI j), .int (nI k), .int 0, .int 0, .int 0]) (rest := []) S (c_X6_arc l g hJ E1_27 hX hv (nI i) (nI j) (nI k) 0 0 0) (cwV 6 S.2.2.2.2 gL_arcs_X6_arc rfl rfl rfl (by decide +kernel) ⟨Nat.le_of_ble_eq_true rfl, Nat.le_of_ble_eq_true rfl⟩) (x_preV hK hP h00 (by decide) rfl) rfl rfl hl.1 rfl (lv_room (Nat.le_of_ble_eq_true rfl)) dL_arcs_95 ⟨Nat.le_of_ble_eq_true rfl, Nat.le_of_ble_eq_true rfl⟩) hS (fun r95 E1_28 H locs q95 hP hS => ?_)
            obtain ⟨q95, hX, -⟩ := q95
            have h00 := hX.at0
            obtain rfl : r95 = -4 := v_ar4 hv hi hj hk hs (by unfold isAsk; decide) (fun h => c73 ((s6 hvM hi hj hk).mpr h)) q95
            refine lv_ldc2 S.1 S.2.1 S.2.2.2.1 (S.2.2.2.2 (.constantLong RL 38 (-4)) (by decide +kernel)) dL_arcs_98 ?_
            refine W.lcmp S.1 S.2.1 dL_arcs_101 ?_
            refine lv_if_ne (tgt := 109) S.1 S.2.1 dL_arcs_102 (by decide) (fun c102 => ?_) (fun c102 => ?_)
            · skip
              exact absurd ((lg_cmp_eq _ _).mpr rfl) c102
            · skip
              refine lv_iconst (v := 1) S.1 S.2.1 dL_arcs_105 (by decide) ?_
              refine lv_goto (tgt := 110) S.1 S.2.1 dL_arcs_106 (by decide) ?_
              exact x_zret S hr hlocks hP hS dL_arcs_110 rfl (⟨rfl, hX⟩)
      · skip
        have hsm : i = j ∨ i = k ∨ j = k := Or.inr (Or.inr (heldU hn hj hk c12))
        refine lv_aload_n S.1 S.2.1 dL_arcs_15 rfl (lv_at hl 0 rfl) ?_
        refine lv_iload_n S.1 S.2.1 dL_arcs_16 rfl (lv_at hl 1 rfl) ?_
        refine lv_iload_n S.1 S.2.1 dL_arcs_17 rfl (lv_at hl 2 rfl) ?_
        refine lv_iload_n S.1 S.2.1 dL_arcs_18 rfl (lv_at hl 3 rfl) ?_
        refine x_qi (va_runV (As := [.int (nI i), .int (nI j), .int (nI k)]) (rest := []) S (c_X6_hits l g hJ E hX hv (nI i) (nI j) (nI k)) (cwV 3 S.2.2.2.2 gL_arcs_X6_hits rfl rfl rfl (by decide +kernel) ⟨Nat.le_of_ble_eq_true rfl, Nat.le_of_ble_eq_true rfl⟩) (x_preV hK hP h00 (by decide) rfl) rfl rfl hl.1 rfl (lv_room (Nat.le_of_ble_eq_true rfl)) dL_arcs_19 ⟨Nat.le_of_ble_eq_true rfl, Nat.le_of_ble_eq_true rfl⟩) hS (fun r19 E1_29 H locs q19 hP hS => ?_)
        obtain ⟨q19, hX, -⟩ := q19
        have h00 := hX.at0
        obtain rfl : r19 = -2 := v_ht2 hv hi hj hk hsm q19
        refine lv_bipush (v := (-2)) S.1 S.2.1 dL_arcs_22 (by decide) ?_
        refine lv_icmp_ne (tgt := 48) S.1 S.2.1 dL_arcs_24 (by decide) (fun c24_2 => ?_) (fun c24_2 => ?_)
        · skip
          exact absurd c24_2 (by decide)
        · skip
          refine lv_aload_n S.1 S.2.1 dL_arcs_27 rfl (lv_at hl 0 rfl) ?_
          refine lv_iload_n S.1 S.2.1 dL_arcs_28 rfl (lv_at hl 1 rfl) ?_
          refine lv_iload_n S.1 S.2.1 dL_arcs_29 rfl (lv_at hl 2 rfl) ?_
          refine lv_iload_n S.1 S.2.1 dL_arcs_30 rfl (lv_at hl 3 rfl) ?_
          refine lv_iconst (v := 0) S.1 S.2.1 dL_arcs_31 (by decide) ?_
          refine lv_iconst (v := 0) S.1 S.2.1 dL_arcs_32 (by decide) ?_
          refine lv_iconst (v := 0) S.1 S.2.1 dL_arcs_33 (by decide) ?_
          refine x_ql (va_runV (As := [.int (nI i), .int (nI j), .int (nI k), .int 0, .int 0, .int 0]) (rest := []) S (c_X6_arc l g hJ E1_29 hX hv (nI i) (nI j) (nI k) 0 0 0) (cwV 6 S.2.2.2.2 gL_arcs_X6_arc rfl rfl rfl (by decide +kernel) ⟨Nat.le_of_ble_eq_true rfl, Nat.le_of_ble_eq_true rfl⟩) (x_preV hK hP h00 (by decide) rfl) rfl rfl hl.1 rfl (lv_room (Nat.le_of_ble_eq_true rfl)) dL_arcs_34 ⟨Nat.le_of_ble_eq_true rfl, Nat.le_of_ble_eq_true rfl⟩) hS (fun r34 E1_30 H locs q34 hP hS => ?_)
          obtain ⟨q34, hX, -⟩ := q34
          have h00 := hX.at0
          obtain rfl : r34 = -2 := v_ar2 hv hi hj hk (Or.inl hsm) q34
          refine lv_ldc2 S.1 S.2.1 S.2.2.2.1 (S.2.2.2.2 (.constantLong RL 36 (-2)) (by decide +kernel)) dL_arcs_37 ?_
          refine W.lcmp S.1 S.2.1 dL_arcs_40 ?_
          refine lv_if_ne (tgt := 48) S.1 S.2.1 dL_arcs_41 (by decide) (fun c41 => ?_) (fun c41 => ?_)
          · skip
            exact absurd ((lg_cmp_eq _ _).mpr rfl) c41
          · skip
            refine lv_iconst (v := 1) S.1 S.2.1 dL_arcs_44 (by decide) ?_
            refine lv_goto (tgt := 49) S.1 S.2.1 dL_arcs_45 (by decide) ?_
            exact x_zret S hr hlocks hP hS dL_arcs_49 rfl (⟨rfl, hX⟩)
