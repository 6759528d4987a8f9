/-! THE LAW: its body -/
set_option maxRecDepth 100000 in
set_option maxHeartbeats 4000000 in
theorem law_body {G : va_G} {cy : ClassId} {c : Cx} (X : Ok G cy c cL_law RL 31 room_1) (hN : Nc c) {bs L9 : Nat} {xs : Nat → Int32} (hXS : XSo (some (bs, L9, xs)) c) (hL9 : L9 ≤ 260) (ret : RetI G c room_1 31 600104 7301314 cL_law (fun v _ => v = some (.int (enc 1)))) : T G c room_1 31 0 0 [] 0 [(0, .ref bs)] [] := by
  refine tw_new X (C := RX4) (TF := TX4) (N := 3) (ci := 4) inA_X4 rfl tyX4 tyX4_ok wc_L_29 wi_X4 wz_X4 (fs := [.null, .null, .null]) (fun j hj => by rcases (show j = 0 ∨ j = 1 ∨ j = 2 by omega) with rfl | rfl | rfl <;> rfl) (Nat.le_of_ble_eq_true rfl) (Nat.le_of_ble_eq_true rfl) dL_law_0 (fun qa => ?_)
  refine tw_dup X dL_law_3 rfl ?_
  refine tn_callI X hN (wdm 16 (by decide +kernel) rfl) wq_X4_init wp_X4_init wz_X4 (by decide +kernel) rfl (b_X4 (a := qa)) [] [] rfl ⟨rfl, rfl, Nat.le_of_ble_eq_true rfl, Nat.le_of_ble_eq_true rfl⟩ ⟨Nat.le_of_ble_eq_true rfl, Nat.le_of_ble_eq_true rfl⟩ (Nat.le_of_ble_eq_true rfl) dL_law_4 (fun v w1 hp => ?_)
  obtain ⟨rfl, q, eq, rfl⟩ := hp
  subst eq
  refine Teq (ws' := wD cy q M0 z0 0 M0 z0 0 z0) (lv' := [(0, .ref bs)]) (st' := [.ref (q 0)]) rfl rfl rfl ?_
  refine tw_astore_n (lv' := [(1, .ref (q 0)), (0, .ref bs)]) X dL_law_7 rfl (by decide) rfl ?_
  refine tw_aload_n X dL_law_8 0 rfl rfl ?_
  refine tw_aload_n X dL_law_9 1 rfl rfl ?_
  refine tw_callE X hN hXS (As := [.ref (q 0), .ref bs]) (st := []) sw_L_75 (m_L_build (q := q) hL9 200 rfl) [] [] rfl rfl rfl ⟨rfl, rfl, Nat.le_of_ble_eq_true rfl, Nat.le_of_ble_eq_true rfl⟩ ⟨Nat.le_of_ble_eq_true rfl, Nat.le_of_ble_eq_true rfl⟩ (Nat.le_of_ble_eq_true rfl) dL_law_10 (fun v w1 hp => ?_)
  obtain ⟨N0, g0, q0, rr0, tt0, s0, o0, U0, sU0, oU0, A0, rfl, hI0, hV0, h0c, rfl⟩ := hp
  refine Teq (ws' := wD cy q N0 s0 o0 U0 sU0 oU0 A0 ++ wS G cy q0 rr0 tt0 N0 g0) (lv' := [(1, .ref (q 0)), (0, .ref bs)]) (st' := [.ref (q0 0)]) (sY [] _).symm rfl rfl ?_
  refine tw_astore_n (lv' := [(2, .ref (q0 0)), (1, .ref (q 0)), (0, .ref bs)]) X dL_law_13 rfl (by decide) rfl ?_
  refine tw_aload_n X dL_law_14 0 rfl rfl ?_
  refine tw_ifnonnull (tgt := 20) X dL_law_15 (by decide) ?_
  refine Twiden (k' := 70000) (n' := 700000) (Nat.le_of_ble_eq_true rfl) (Nat.le_of_ble_eq_true rfl) ?_
  refine tw_iconst X dL_law_20 ?_
  refine tw_istore_n (lv' := [(3, .int (enc (0))), (2, .ref (q0 0)), (1, .ref (q 0)), (0, .ref (bs))]) X dL_law_21 rfl (by decide) rfl ?_
  have L22 : ∀ (fu k1 : Nat) (N2 : MT) (s2 : Int → Int) (o2 : Int) (U2 : MT) (sU2 : Int → Int) (oU2 : Int) (A2 : Int → Int) (g2 : Int → Int) (q2 : Nat → Nat) (rr2 : Nat → Nat) (tt2 : Nat → Nat), (k1 : Int) ≤ (30 : Int) → (30 : Int) + 1 ≤ (k1 : Int) + fu → INV N2 g2 (71700 + 1326 * (k1 : Int)) → WVo N2 s2 o2 → 2 ≤ N2 19 0 → T G c room_1 31 (70000 + 1240 * k1) (700000 + 12400 * k1) (wD cy q N2 s2 o2 U2 sU2 oU2 A2 ++ wS G cy q2 rr2 tt2 N2 g2) 22 [(3, .int (enc ((k1 : Int)))), (2, .ref (q2 0)), (1, .ref (q 0)), (0, .ref (bs))] [] := by
    intro fu
    induction fu with
    | zero =>
      intro k1 N2 s2 o2 U2 sU2 oU2 A2 g2 q2 rr2 tt2 hi0 hi1
      exact absurd hi1 (by omega)
    | succ fu ih22 =>
      intro k1 N2 s2 o2 U2 sU2 oU2 A2 g2 q2 rr2 tt2 hi0_22 hi1_22 hI2 hV2 h2c
      refine tw_iload_n X dL_law_22 0 rfl rfl ?_
      refine tw_bipush X dL_law_23 (by decide) ?_
      refine tw_icmp_ge (tgt := 1315) X (In_of (by omega) (by omega)) (In_of (by omega) (by omega)) dL_law_25 (by decide) (fun c25 => ?_) (fun c25 => ?_)
      · skip
        refine tw_aload_n X dL_law_1315 1 rfl rfl ?_
        refine tw_aload_n X dL_law_1316 2 rfl rfl ?_
        refine tw_callV X (As := [.ref (q 0)]) (st := []) vw_L_147 (m_X5_isSame (q := q) (qs := q2) (rr := rr2) (tt := tt2) N2 s2 o2 U2 sU2 oU2 A2 g2 (71700 + 1326 * k1) hI2.1 (by omega)) ([]) ([]) (sY [] _) rfl (q0 := 45) rfl rfl rfl ⟨rfl, rfl, Nat.le_of_ble_eq_true rfl, Nat.le_of_ble_eq_true rfl⟩ ⟨(show 70000 + 1240 * k1 + 0 ≤ 600104 by omega), (show 700000 + 12400 * k1 + 0 ≤ 7301314 by omega)⟩ (Nat.le_of_ble_eq_true rfl) dL_law_1317 (fun v w1 hp => ?_)
        obtain ⟨rfl, rfl⟩ := hp
        refine Teq (ws' := wD cy q N2 s2 o2 U2 sU2 oU2 A2 ++ wS G cy q2 rr2 tt2 N2 g2) (lv' := [(3, .int (enc ((k1 : Int)))), (2, .ref (q2 0)), (1, .ref (q 0)), (0, .ref (bs))]) (st' := [.int (enc (1))]) (sY [] _).symm rfl rfl ?_
        refine Twiden (k' := 600104) (n' := 7301314) (by omega) (by omega) ?_
        exact ret _ _ _ _ dL_law_1320 rfl
      · skip
        refine tw_aload_n X dL_law_28 3 rfl rfl ?_
        refine tw_iload_n X dL_law_29 0 rfl rfl ?_
        refine tw_bipush X dL_law_30 (by decide) ?_
        refine tw_irem X ⟨by omega, In_of (by omega) (by omega)⟩ ⟨by omega, In_of (by omega) (by omega)⟩ dL_law_32 (fun z32 h32a h32b h32e => ?_)
        refine tw_callE X hN hXS (As := [.ref (bs), .int (enc (z32))]) (st := []) sw_L_66 (m_L_cell hL9 (z32) (by omega)) ([]) (wD cy q N2 s2 o2 U2 sU2 oU2 A2 ++ wS G cy q2 rr2 tt2 N2 g2) rfl rfl rfl ⟨rfl, rfl, Nat.le_of_ble_eq_true rfl, Nat.le_of_ble_eq_true rfl⟩ ⟨(show 70000 + 1240 * k1 + 0 ≤ 600104 by omega), (show 700000 + 12400 * k1 + 0 ≤ 7301314 by omega)⟩ (Nat.le_of_ble_eq_true rfl) dL_law_33 (fun v w1 hp => ?_)
        obtain ⟨⟨z33, hz33, rfl⟩, rfl⟩ := hp
        refine Teq (ws' := wD cy q N2 s2 o2 U2 sU2 oU2 A2 ++ wS G cy q2 rr2 tt2 N2 g2) (lv' := [(3, .int (enc ((k1 : Int)))), (2, .ref (q2 0)), (1, .ref (q 0)), (0, .ref (bs))]) (st' := [.int (enc (z33))]) rfl rfl rfl ?_
        refine tw_iload_n X dL_law_36 0 rfl rfl ?_
        refine tw_bipush X dL_law_37 (by decide) ?_
        refine tw_idiv X ⟨In_of (by omega) (by omega), by omega⟩ dL_law_39 (fun z39 hz39 => ?_)
        refine tw_iconst X dL_law_40 ?_
        refine tw_imul (z := z39 * 3) X dL_law_41 rfl ?_
        refine tw_ishr X dL_law_42 (fun z42 hz42 => ?_)
        refine tw_sipush X dL_law_43 (by decide) ?_
        refine tw_iload_n X dL_law_46 0 rfl rfl ?_
        refine tw_imul (z := 661 * (k1 : Int)) X dL_law_47 rfl ?_
        refine tw_iadd (z := z42 + (661 * (k1 : Int))) X dL_law_48 rfl ?_
        refine tw_istore (lv' := [(4, .int (enc (z42 + (661 * (k1 : Int))))), (3, .int (enc ((k1 : Int)))), (2, .ref (q2 0)), (1, .ref (q 0)), (0, .ref (bs))]) X dL_law_49 (by decide) rfl ?_
        refine tw_aload_n X dL_law_51 3 rfl rfl ?_
        refine tw_aload_n X dL_law_52 2 rfl rfl ?_
        refine tw_iload X dL_law_53 0 rfl ?_
        refine tw_callE X hN (fun _ _ _ h => by cases h) (As := [.ref (q 0), .ref (q2 0), .int (enc (z42 + (661 * (k1 : Int))))]) (st := []) sw_L_70 (m_L_act (q := q) (qs := q2) (rr := rr2) (tt := tt2) N2 s2 o2 U2 sU2 oU2 A2 g2 (z42 + (661 * (k1 : Int))) (71700 + 1326 * k1) hI2 (by omega) hV2) ([]) ([]) (sY [] _) rfl rfl ⟨rfl, rfl, Nat.le_of_ble_eq_true rfl, Nat.le_of_ble_eq_true rfl⟩ ⟨(show 70000 + 1240 * k1 + 1200 ≤ 600104 by omega), (show 700000 + 12400 * k1 + 12000 ≤ 7301314 by omega)⟩ (Nat.le_of_ble_eq_true rfl) dL_law_55 (fun v w1 hp => ?_)
        obtain ⟨rfl, N9, g9, qs9, rr9, tt9, s9, o9, U9, sU9, oU9, A9, hq9, hI9, hV9, h99, rfl⟩ := hp
        refine Teq (ws' := wD cy q N9 s9 o9 U9 sU9 oU9 A9 ++ wS G cy qs9 rr9 tt9 N9 g9) (lv' := [(4, .int (enc (z42 + (661 * (k1 : Int))))), (3, .int (enc ((k1 : Int)))), (2, .ref (qs9 0)), (1, .ref (q 0)), (0, .ref (bs))]) (st' := [.int (enc (1))]) (sY [] _).symm (by rw [hq9]) rfl ?_
        refine tw_if_ne (tgt := 63) X (In_of (by omega) (by omega)) dL_law_58 (by decide) (fun c58 => ?_) (fun c58 => ?_)
        · skip
          refine Tsub (lv' := [(4, .int (enc (z42 + (661 * (k1 : Int))))), (3, .int (enc ((k1 : Int)))), (2, .ref (qs9 0)), (1, .ref (q 0)), (0, .ref (bs))]) [0, 1, 2, 3, 4] rfl ?_
          refine law_s1 X N9 s9 o9 U9 sU9 oU9 A9 g9 bs (k1 : Int) (71700 + 1326 * (k1 : Int) + 1300) hI9 (by omega) hV9 _ _ (by omega) (by omega) _ (by omega) (fun sA oA UA sUA oUA AA hVA => ?_)
          refine law_s2 X N9 sA oA UA sUA oUA AA g9 bs (k1 : Int) (71700 + 1326 * (k1 : Int) + 1300) hI9 (by omega) hVA _ _ (by omega) (by omega) (fun a1 a2 a3 a4 fw fk fs hfw hfk hfs => ?_)
          refine law_s3 X N9 sA oA UA sUA oUA AA g9 bs (k1 : Int) (71700 + 1326 * (k1 : Int) + 1300) hI9 (by omega) hVA _ _ a1 a2 a3 a4 fw fk fs (by omega) (by omega) (fun a5 a6 a7 a8 fr ff fd fb fo hfr hff hfd hfb hfo => ?_)
          refine law_s4 X N9 sA oA UA sUA oUA AA g9 bs (k1 : Int) (71700 + 1326 * (k1 : Int) + 1300) hI9 (by omega) hVA _ _ a1 a2 a3 a4 fw fk fs a5 a6 a7 a8 fr ff fd fb fo (by omega) (by omega) hfo ?_
          refine law_s5 X N9 sA oA UA sUA oUA AA g9 bs (k1 : Int) (71700 + 1326 * (k1 : Int) + 1300) hI9 (by omega) hVA _ _ a1 a2 a3 a4 fw fk fs a5 a6 a7 a8 fr ff fd fb fo (by omega) (by omega) hfr hff hfd hfb (fun sB oB UB sUB oUB AB gB hVB hGB => ?_)
          refine law_s6 X N9 sB oB UB sUB oUB AB g9 bs (k1 : Int) (71700 + 1326 * (k1 : Int) + 1300) hI9 (by omega) _ _ a1 a2 a3 a4 fw fk fs a5 a6 a7 a8 fr ff fd fb fo gB (by omega) (by omega) hfw hfk hfs ?_
          refine tw_iinc (q := 0) (x := (k1 : Int)) (y := (k1 : Int) + 1) (lv' := [(3, .int (enc ((k1 : Int) + 1))), (2, .ref (qs9 0)), (1, .ref (q 0)), (0, .ref bs)]) X dL_law_1309 rfl rfl (by decide) rfl ?_
          refine tw_goto (tgt := 22) X dL_law_1312 (by decide) ?_
          refine Twiden (k' := 70000 + 1240 * (k1 + 1)) (n' := 700000 + 12400 * (k1 + 1)) (by omega) (by omega) ?_
          exact ih22 (k1 + 1) (hourM N9) sB oB UB sUB oUB AB gB qs9 rr9 tt9 (by omega) (by omega) (INV.mono (hI9.hour hGB) (by omega)) hVB (by rw [hour_fix' (by omega)]; omega)
        · exact absurd c58 (by decide)
  refine Twiden (k' := 70000 + 1240 * 0) (n' := 700000 + 12400 * 0) (by omega) (by omega) ?_
  refine Teq (ws' := wD cy q (N0) (s0) (o0) (U0) (sU0) (oU0) (A0) ++ wS G cy (q0) (rr0) (tt0) (N0) (g0)) (lv' := [(3, .int (enc (((0 : Nat) : Int)))), (2, .ref ((q0) 0)), (1, .ref (q 0)), (0, .ref (bs))]) (st' := []) (rfl) (rfl) rfl (L22 ((30 : Int) + 1).toNat 0 (N0) (s0) (o0) (U0) (sU0) (oU0) (A0) (g0) (q0) (rr0) (tt0) (by omega) (by omega) (INV.mono hI0 (by omega)) (hV0) (h0c))
