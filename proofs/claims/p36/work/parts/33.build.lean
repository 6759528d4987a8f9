/-! THE LOOM THAT CELLS CHOOSE -/
set_option maxRecDepth 100000 in
set_option maxHeartbeats 4000000 in
theorem m_L_build {G : va_G} {cy : ClassId} {q : Nat → Nat} {b9 L9 : Nat} {xs : Nat → Int32} (hL9 : L9 ≤ 260) (B : Int) (hBe : B = 200) : CtE G cy (some (b9, L9, xs)) yL_build cL_build 6 (some (.object "DetourLoomLaw$Sim")) ({ frames := 6, cells := 66003, slots := 660004, locals := 160 } : Room) 66003 660004 [.ref (q 0), .ref (b9)] (wD cy q M0 z0 0 M0 z0 0 z0) (fun v w1 => ∃ (N' : MT) (g' : Int → Int) (q' rr' tt' : Nat → Nat) (s' : Int → Int) (o' : Int) (U' : MT) (sU' : Int → Int) (oU' : Int) (A' : Int → Int), v = some (.ref (q' 0)) ∧ INV N' g' (B + 71500) ∧ WVo N' s' o' ∧ 2 ≤ N' 19 0 ∧ w1 = wD cy q N' s' o' U' sU' oU' A' ++ wS G cy q' rr' tt' N' g') := by
  refine CtE.ofA (by decide) (Nat.le_of_ble_eq_true rfl) rfl rfl (Or.inl ⟨_, rfl⟩) ?_
  intro c X hN hXS ret
  have hI0 : INV M0 z0 B := by rw [hBe]; exact INV0
  have hV0 : WVo M0 z0 0 := ⟨Or.inl rfl, fun _ a b a0 a1 _ _ => absurd a1 (by show ¬ a < 0; omega)⟩
  refine Tlv (lv' := [(0, .ref (q 0)), (1, .ref (b9))]) rfl ?_
  refine tw_new X (C := RX5) (TF := TX5) (N := 4) (ci := 5) inA_X5 rfl tyX5 tyX5_ok wc_L_10 wi_X5 wz_X5 (fs := [.int (enc 0), .int (enc 0), .null, .null]) (fun j hj => by rcases (show j = 0 ∨ j = 1 ∨ j = 2 ∨ j = 3 by omega) with rfl | rfl | rfl | rfl <;> rfl) (Nat.le_of_ble_eq_true rfl) (Nat.le_of_ble_eq_true rfl) dL_build_0 (fun qn => ?_)
  refine tw_dup X dL_build_3 rfl ?_
  refine tn_callN X hN (host := "DetourLoomLaw") (List.mem_of_getElem? (i := 5) rfl) wq_X5_init wp_X5_init wz_X5 (by decide +kernel) rfl (b_X5 (a := qn)) (wD cy q M0 z0 0 M0 z0 0 z0) [] rfl ⟨rfl, rfl, Nat.le_of_ble_eq_true rfl, Nat.le_of_ble_eq_true rfl⟩ ⟨Nat.le_of_ble_eq_true rfl, Nat.le_of_ble_eq_true rfl⟩ (Nat.le_of_ble_eq_true rfl) dL_build_4 (fun v w1 hp => ?_)
  obtain ⟨rfl, qs, eqs, rfl⟩ := hp
  subst eqs
  refine Teq (ws' := wD cy q M0 z0 0 M0 z0 0 z0 ++ wS G cy qs (fun _ => 0) (fun _ => 0) M0 z0) (lv' := [(0, .ref (q 0)), (1, .ref (b9))]) (st' := [.ref (qs 0)]) (sY _ _).symm rfl rfl ?_
  refine tw_astore_n (lv' := [(2, .ref (qs 0)), (0, .ref (q 0)), (1, .ref (b9))]) X dL_build_7 rfl (by decide) rfl ?_
  refine tw_iconst X dL_build_8 ?_
  refine tw_aload_n X dL_build_9 2 rfl rfl ?_
  refine tw_iconst X dL_build_10 ?_
  refine tw_callE X hN hXS (As := [.ref (b9), .int (enc (1))]) (st := [.int (enc (2))]) sw_L_66 (m_L_cell hL9 (1) (by omega)) ([]) (wD cy q M0 z0 0 M0 z0 0 z0 ++ wS G cy qs (fun _ => 0) (fun _ => 0) M0 z0) rfl rfl rfl ⟨rfl, rfl, Nat.le_of_ble_eq_true rfl, Nat.le_of_ble_eq_true rfl⟩ ⟨(show 0 + 1 + 2 + 0 ≤ 66003 by omega), (show 0 + 4 + 0 + 0 ≤ 660004 by omega)⟩ (Nat.le_of_ble_eq_true rfl) dL_build_11 (fun v w1 hp => ?_)
  obtain ⟨⟨z11, hz11, rfl⟩, rfl⟩ := hp
  refine Teq (ws' := wD cy q M0 z0 0 M0 z0 0 z0 ++ wS G cy qs (fun _ => 0) (fun _ => 0) M0 z0) (lv' := [(2, .ref (qs 0)), (0, .ref (q 0)), (1, .ref (b9))]) (st' := [.int (enc (z11)), .int (enc (2))]) rfl rfl rfl ?_
  refine tw_bipush X dL_build_14 (by decide) ?_
  refine tw_callS X (As := [.int (enc (z11)), .int (enc (6))]) (st := [.int (enc (2))]) sw_L_22 (m_L_below (z11) (6) (by omega)) ([]) (wD cy q M0 z0 0 M0 z0 0 z0 ++ wS G cy qs (fun _ => 0) (fun _ => 0) M0 z0) rfl rfl rfl ⟨rfl, rfl, Nat.le_of_ble_eq_true rfl, Nat.le_of_ble_eq_true rfl⟩ ⟨(show 0 + 1 + 2 + 0 ≤ 66003 by omega), (show 0 + 4 + 0 + 0 ≤ 660004 by omega)⟩ (Nat.le_of_ble_eq_true rfl) dL_build_16 (fun v w1 hp => ?_)
  obtain ⟨⟨z16, h16a, h16b, rfl⟩, rfl⟩ := hp
  refine Teq (ws' := wD cy q M0 z0 0 M0 z0 0 z0 ++ wS G cy qs (fun _ => 0) (fun _ => 0) M0 z0) (lv' := [(2, .ref (qs 0)), (0, .ref (q 0)), (1, .ref (b9))]) (st' := [.int (enc (z16)), .int (enc (2))]) rfl rfl rfl ?_
  refine tw_iadd (z := 2 + z16) X dL_build_19 rfl ?_
  refine tw_istore_n (lv' := [(3, .int (enc (2 + z16))), (2, .ref (qs 0)), (0, .ref (q 0)), (1, .ref (b9))]) X dL_build_20 rfl (by decide) rfl ?_
  refine tw_iconst X dL_build_21 ?_
  refine tw_istore (lv' := [(4, .int (enc (0))), (3, .int (enc (2 + z16))), (2, .ref (qs 0)), (0, .ref (q 0)), (1, .ref (b9))]) X dL_build_22 (by decide) rfl ?_
  have L24 : ∀ (fu c1 : Nat) (N1 : MT) (sa : Int → Int) (oa : Int) (Ua : MT) (sUa : Int → Int) (oUa : Int) (Aa : Int → Int), (c1 : Int) ≤ 2 + z16 → 2 + z16 + 1 ≤ (c1 : Int) + fu → INV N1 z0 B → WVo N1 sa oa → N1 19 0 = (c1 : Int) → T G c ({ frames := 6, cells := 66003, slots := 660004, locals := 160 } : Room) 6 (0 + 1 + 2) (0 + 4 + 0) (wD cy q N1 sa oa Ua sUa oUa Aa ++ wS G cy qs (fun _ => 0) (fun _ => 0) N1 z0) 24 [(4, .int (enc ((c1 : Int)))), (3, .int (enc (2 + z16))), (0, .ref (q 0)), (1, .ref (b9)), (2, .ref (qs 0))] [] := by
    intro fu
    induction fu with
    | zero =>
      intro c1 N1 sa oa Ua sUa oUa Aa hi0 hi1
      exact absurd hi1 (by omega)
    | succ fu ih24 =>
      intro c1 N1 sa oa Ua sUa oUa Aa hi0_24 hi1_24 hI hV hc
      have hF := hI.1
      have hBN := hF.bd (show B ≤ 2000000 by omega)
      have bN := hBN 19 0
      refine tw_iload X dL_build_24 0 rfl ?_
      refine tw_iload_n X dL_build_26 1 rfl rfl ?_
      refine tw_icmp_ge (tgt := 57) X (In_of (by omega) (by omega)) (In_of (by omega) (by omega)) dL_build_27 (by decide) (fun c27 => ?_) (fun c27 => ?_)
      · skip
        refine tw_bipush X dL_build_57 (by decide) ?_
        refine tw_aload_n X dL_build_59 3 rfl rfl ?_
        refine tw_iconst X dL_build_60 ?_
        refine tw_callE X hN hXS (As := [.ref (b9), .int (enc (0))]) (st := [.int (enc (12))]) sw_L_66 (m_L_cell hL9 (0) (by omega)) ([]) (wD cy q N1 sa oa Ua sUa oUa Aa ++ wS G cy qs (fun _ => 0) (fun _ => 0) N1 z0) rfl rfl rfl ⟨rfl, rfl, Nat.le_of_ble_eq_true rfl, Nat.le_of_ble_eq_true rfl⟩ ⟨(show 0 + 1 + 2 + 0 ≤ 66003 by omega), (show 0 + 4 + 0 + 0 ≤ 660004 by omega)⟩ (Nat.le_of_ble_eq_true rfl) dL_build_61 (fun v w1 hp => ?_)
        obtain ⟨⟨z61, hz61, rfl⟩, rfl⟩ := hp
        refine Teq (ws' := wD cy q N1 sa oa Ua sUa oUa Aa ++ wS G cy qs (fun _ => 0) (fun _ => 0) N1 z0) (lv' := [(4, .int (enc ((c1 : Int)))), (3, .int (enc (2 + z16))), (0, .ref (q 0)), (1, .ref (b9)), (2, .ref (qs 0))]) (st' := [.int (enc (z61)), .int (enc (12))]) rfl rfl rfl ?_
        refine tw_bipush X dL_build_64 (by decide) ?_
        refine tw_callS X (As := [.int (enc (z61)), .int (enc (44))]) (st := [.int (enc (12))]) sw_L_22 (m_L_below (z61) (44) (by omega)) ([]) (wD cy q N1 sa oa Ua sUa oUa Aa ++ wS G cy qs (fun _ => 0) (fun _ => 0) N1 z0) rfl rfl rfl ⟨rfl, rfl, Nat.le_of_ble_eq_true rfl, Nat.le_of_ble_eq_true rfl⟩ ⟨(show 0 + 1 + 2 + 0 ≤ 66003 by omega), (show 0 + 4 + 0 + 0 ≤ 660004 by omega)⟩ (Nat.le_of_ble_eq_true rfl) dL_build_66 (fun v w1 hp => ?_)
        obtain ⟨⟨z66, h66a, h66b, rfl⟩, rfl⟩ := hp
        refine Teq (ws' := wD cy q N1 sa oa Ua sUa oUa Aa ++ wS G cy qs (fun _ => 0) (fun _ => 0) N1 z0) (lv' := [(4, .int (enc ((c1 : Int)))), (3, .int (enc (2 + z16))), (0, .ref (q 0)), (1, .ref (b9)), (2, .ref (qs 0))]) (st' := [.int (enc (z66)), .int (enc (12))]) rfl rfl rfl ?_
        refine tw_iadd (z := 12 + z66) X dL_build_69 rfl ?_
        refine tw_istore (lv' := [(4, .int (enc (12 + z66))), (3, .int (enc (2 + z16))), (0, .ref (q 0)), (1, .ref (b9)), (2, .ref (qs 0))]) X dL_build_70 (by decide) rfl ?_
        refine tw_iconst X dL_build_72 ?_
        refine tw_istore (lv' := [(5, .int (enc (0))), (4, .int (enc (12 + z66))), (3, .int (enc (2 + z16))), (0, .ref (q 0)), (1, .ref (b9)), (2, .ref (qs 0))]) X dL_build_73 (by decide) rfl ?_
        have L75 : ∀ (fu k1 : Nat) (N2 : MT) (s2 : Int → Int) (o2 : Int) (U2 : MT) (sU2 : Int → Int) (oU2 : Int) (A2 : Int → Int) (g2 : Int → Int) (q2 : Nat → Nat) (rr2 : Nat → Nat) (tt2 : Nat → Nat), (k1 : Int) ≤ 12 + z66 → 12 + z66 + 1 ≤ (k1 : Int) + fu → INV N2 g2 (B + 1300 * (k1 : Int)) → WVo N2 s2 o2 → 2 ≤ N2 19 0 → T G c ({ frames := 6, cells := 66003, slots := 660004, locals := 160 } : Room) 6 (3 + 1200 * k1) (4 + 12000 * k1) (wD cy q N2 s2 o2 U2 sU2 oU2 A2 ++ wS G cy q2 rr2 tt2 N2 g2) 75 [(5, .int (enc ((k1 : Int)))), (4, .int (enc (12 + z66))), (0, .ref (q 0)), (1, .ref (b9)), (2, .ref (q2 0))] [] := by
          intro fu
          induction fu with
          | zero =>
            intro k1 N2 s2 o2 U2 sU2 oU2 A2 g2 q2 rr2 tt2 hi0 hi1
            exact absurd hi1 (by omega)
          | succ fu ih75 =>
            intro k1 N2 s2 o2 U2 sU2 oU2 A2 g2 q2 rr2 tt2 hi0_75 hi1_75 hI2 hV2 h2c
            refine tw_iload X dL_build_75 0 rfl ?_
            refine tw_iload X dL_build_77 1 rfl ?_
            refine tw_icmp_ge (tgt := 122) X (In_of (by omega) (by omega)) (In_of (by omega) (by omega)) dL_build_79 (by decide) (fun c79 => ?_) (fun c79 => ?_)
            · skip
              refine tw_aload_n X dL_build_122 4 rfl rfl ?_
              refine Twiden (k' := 66003) (n' := 660004) (by omega) (by omega) ?_
              exact ret _ _ _ _ dL_build_123 ⟨N2, g2, q2, rr2, tt2, s2, o2, U2, sU2, oU2, A2, rfl, INV.mono hI2 (by omega), hV2, h2c, rfl⟩
            · skip
              refine tw_aload_n X dL_build_82 2 rfl rfl ?_
              refine tw_aload_n X dL_build_83 4 rfl rfl ?_
              refine tw_aload_n X dL_build_84 3 rfl rfl ?_
              refine tw_iload X dL_build_85 0 rfl ?_
              refine tw_bipush X dL_build_87 (by decide) ?_
              refine tw_irem X ⟨by omega, In_of (by omega) (by omega)⟩ ⟨by omega, In_of (by omega) (by omega)⟩ dL_build_89 (fun z89 h89a h89b h89e => ?_)
              refine tw_callE X hN hXS (As := [.ref (b9), .int (enc (z89))]) (st := [.ref (q2 0), .ref (q 0)]) sw_L_66 (m_L_cell hL9 (z89) (by omega)) ([]) (wD cy q N2 s2 o2 U2 sU2 oU2 A2 ++ wS G cy q2 rr2 tt2 N2 g2) rfl rfl rfl ⟨rfl, rfl, Nat.le_of_ble_eq_true rfl, Nat.le_of_ble_eq_true rfl⟩ ⟨(show 3 + 1200 * k1 + 0 ≤ 66003 by omega), (show 4 + 12000 * k1 + 0 ≤ 660004 by omega)⟩ (Nat.le_of_ble_eq_true rfl) dL_build_90 (fun v w1 hp => ?_)
              obtain ⟨⟨z90, hz90, rfl⟩, rfl⟩ := hp
              refine Teq (ws' := wD cy q N2 s2 o2 U2 sU2 oU2 A2 ++ wS G cy q2 rr2 tt2 N2 g2) (lv' := [(5, .int (enc ((k1 : Int)))), (4, .int (enc (12 + z66))), (0, .ref (q 0)), (1, .ref (b9)), (2, .ref (q2 0))]) (st' := [.int (enc (z90)), .ref (q2 0), .ref (q 0)]) rfl rfl rfl ?_
              refine tw_iload X dL_build_93 0 rfl ?_
              refine tw_bipush X dL_build_95 (by decide) ?_
              refine tw_idiv X ⟨In_of (by omega) (by omega), by omega⟩ dL_build_97 (fun z97 hz97 => ?_)
              refine tw_iconst X dL_build_98 ?_
              refine tw_imul (z := z97 * 3) X dL_build_99 rfl ?_
              refine tw_ishr X dL_build_100 (fun z100 hz100 => ?_)
              refine tw_sipush X dL_build_101 (by decide) ?_
              refine tw_iload X dL_build_104 0 rfl ?_
              refine tw_imul (z := 661 * (k1 : Int)) X dL_build_106 rfl ?_
              refine tw_iadd (z := z100 + (661 * (k1 : Int))) X dL_build_107 rfl ?_
              refine tw_callE X hN (fun _ _ _ h => by cases h) (As := [.ref (q 0), .ref (q2 0), .int (enc (z100 + (661 * (k1 : Int))))]) (st := []) sw_L_70 (m_L_act (q := q) (qs := q2) (rr := rr2) (tt := tt2) N2 s2 o2 U2 sU2 oU2 A2 g2 (z100 + (661 * (k1 : Int))) (B + 1300 * k1) hI2 (by omega) hV2) ([]) ([]) (sY [] _) rfl rfl ⟨rfl, rfl, Nat.le_of_ble_eq_true rfl, Nat.le_of_ble_eq_true rfl⟩ ⟨(show 3 + 1200 * k1 + 1200 ≤ 66003 by omega), (show 4 + 12000 * k1 + 12000 ≤ 660004 by omega)⟩ (Nat.le_of_ble_eq_true rfl) dL_build_108 (fun v w1 hp => ?_)
              obtain ⟨rfl, N9, g9, qs9, rr9, tt9, s9, o9, U9, sU9, oU9, A9, hq9, hI9, hV9, h99, rfl⟩ := hp
              refine Teq (ws' := wD cy q N9 s9 o9 U9 sU9 oU9 A9 ++ wS G cy qs9 rr9 tt9 N9 g9) (lv' := [(5, .int (enc ((k1 : Int)))), (4, .int (enc (12 + z66))), (0, .ref (q 0)), (1, .ref (b9)), (2, .ref (qs9 0))]) (st' := [.int (enc (1))]) (sY [] _).symm (by rw [hq9]) rfl ?_
              refine tw_if_ne (tgt := 116) X (In_of (by omega) (by omega)) dL_build_111 (by decide) (fun c111 => ?_) (fun c111 => ?_)
              · skip
                refine tw_iinc (q := 0) (x := (k1 : Int)) (y := (k1 : Int) + 1) (lv' := [(5, .int (enc ((k1 : Int) + 1))), (4, .int (enc (12 + z66))), (0, .ref (q 0)), (1, .ref (b9)), (2, .ref (qs9 0))]) X dL_build_116 rfl rfl (by decide) rfl ?_
                refine tw_goto (tgt := 75) X dL_build_119 (by decide) ?_
                refine Twiden (k' := 3 + 1200 * (k1 + 1)) (n' := 4 + 12000 * (k1 + 1)) (by omega) (by omega) ?_
                refine Tsub (lv' := [(5, .int (enc ((k1 : Int) + 1))), (4, .int (enc (12 + z66))), (0, .ref (q 0)), (1, .ref (b9)), (2, .ref (qs9 0))]) [0, 1, 2, 3, 4] rfl ?_
                refine Teq (ws' := wD cy q (N9) (s9) (o9) (U9) (sU9) (oU9) (A9) ++ wS G cy (qs9) (rr9) (tt9) (N9) (g9)) (lv' := [(5, .int (enc (((k1 + 1 : Nat) : Int)))), (4, .int (enc (12 + z66))), (0, .ref (q 0)), (1, .ref (b9)), (2, .ref ((qs9) 0))]) (st' := []) (rfl) (lvc (i_succ k1) (lvk (lvk (lvk (lvk (rfl)))))) rfl (ih75 (k1 + 1) (N9) (s9) (o9) (U9) (sU9) (oU9) (A9) (g9) (qs9) (rr9) (tt9) (by omega) (by omega) (INV.mono hI9 (by omega)) (hV9) ((by omega)))
              · exact absurd c111 (by decide)
        refine Twiden (k' := 3 + 1200 * 0) (n' := 4 + 12000 * 0) (by omega) (by omega) ?_
        refine Tsub (lv' := [(5, .int (enc (0))), (4, .int (enc (12 + z66))), (0, .ref (q 0)), (1, .ref (b9)), (2, .ref (qs 0))]) [0, 1, 3, 4, 5] rfl ?_
        refine Teq (ws' := wD cy q (N1) (sa) (oa) (Ua) (sUa) (oUa) (Aa) ++ wS G cy (qs) ((fun _ => 0)) ((fun _ => 0)) (N1) (z0)) (lv' := [(5, .int (enc (((0 : Nat) : Int)))), (4, .int (enc (12 + z66))), (0, .ref (q 0)), (1, .ref (b9)), (2, .ref ((qs) 0))]) (st' := []) (rfl) (rfl) rfl (L75 (12 + z66 + 1).toNat 0 (N1) (sa) (oa) (Ua) (sUa) (oUa) (Aa) (z0) (qs) ((fun _ => 0)) ((fun _ => 0)) (by omega) (by omega) (INV.mono hI (by omega)) (hV) ((by omega)))
      · skip
        refine tw_aload_n X dL_build_30 4 rfl rfl ?_
        refine tw_dup X dL_build_31 rfl ?_
        refine gf_L_9 X (v := .int (enc (N1 19 0))) 45 rfl rfl dL_build_32 ?_
        refine tw_iconst X dL_build_35 ?_
        refine tw_iadd (z := (N1 19 0) + 1) X dL_build_36 rfl ?_
        refine pf_L_9 X (ws' := wD cy q N1 sa oa Ua sUa oUa Aa ++ ([(qs 0, .inr (5, [.int (enc (N1 20 0)), .int (enc ((N1 19 0) + 1)), .ref (qs 1), .ref (qs 2)])), (qs 1, gI G (N1 16 0).toNat (fun j => some ((fun _ => 0) j))), (qs 2, gI G (N1 17 0).toNat (fun j => some ((fun _ => 0) j)))] ++ (rowsR cy (fun _ => 0) N1 (N1 16 0).toNat ++ rowsT cy (fun _ => 0) N1 z0 (N1 17 0).toNat))) 45 rfl (Nat.le_of_ble_eq_true rfl) rfl rfl dL_build_37 rfl ?_
        refine Tws (ws' := wD cy q N1 sa oa Ua sUa oUa Aa ++ wS G cy qs (fun _ => 0) (fun _ => 0) (upc N1 19 ((N1 19 0) + 1)) z0) (congrArg (fun z => wD cy q N1 sa oa Ua sUa oUa Aa ++ z) (wS_put19 _ _ _ _ _ _ _ _)) ?_
        refine tw_aload_n X dL_build_40 2 rfl rfl ?_
        refine tw_callV X (As := []) (st := []) vw_L_28 (m_X4_addCrossing (q := q) N1 sa oa Ua sUa oUa Aa B hF (by omega) hV (by omega)) ([]) (wS G cy qs (fun _ => 0) (fun _ => 0) (upc N1 19 ((N1 19 0) + 1)) z0) rfl rfl (q0 := 0) rfl rfl rfl ⟨rfl, rfl, Nat.le_of_ble_eq_true rfl, Nat.le_of_ble_eq_true rfl⟩ ⟨(show 0 + 1 + 2 + 0 ≤ 66003 by omega), (show 0 + 4 + 0 + 0 ≤ 660004 by omega)⟩ (Nat.le_of_ble_eq_true rfl) dL_build_41 (fun v w1 hp => ?_)
        obtain ⟨rfl, s1, o1, U1, sU1, oU1, A1, hV1, rfl⟩ := hp
        refine Teq (ws' := wD cy q (upc N1 19 (N1 19 0 + 1)) s1 o1 U1 sU1 oU1 A1 ++ wS G cy qs (fun _ => 0) (fun _ => 0) (upc N1 19 ((N1 19 0) + 1)) z0) (lv' := [(4, .int (enc ((c1 : Int)))), (3, .int (enc (2 + z16))), (0, .ref (q 0)), (1, .ref (b9)), (2, .ref (qs 0))]) (st' := [.int (enc (N1 19 0))]) rfl rfl rfl ?_
        refine tw_iload X dL_build_44 0 rfl ?_
        refine tw_icmp_eq (tgt := 51) X (In_of (by omega) (by omega)) (In_of (by omega) (by omega)) dL_build_46 (by decide) (fun c46 => ?_) (fun c46 => ?_)
        · skip
          refine tw_iinc (q := 0) (x := (c1 : Int)) (y := (c1 : Int) + 1) (lv' := [(4, .int (enc ((c1 : Int) + 1))), (3, .int (enc (2 + z16))), (0, .ref (q 0)), (1, .ref (b9)), (2, .ref (qs 0))]) X dL_build_51 rfl rfl (by decide) rfl ?_
          refine tw_goto (tgt := 24) X dL_build_54 (by decide) ?_
          refine Tsub (lv' := [(4, .int (enc ((c1 : Int) + 1))), (3, .int (enc (2 + z16))), (0, .ref (q 0)), (1, .ref (b9)), (2, .ref (qs 0))]) [0, 1, 2, 3, 4] rfl ?_
          refine Teq (ws' := wD cy q ((upc N1 19 (N1 19 0 + 1))) (s1) (o1) (U1) (sU1) (oU1) (A1) ++ wS G cy qs (fun _ => 0) (fun _ => 0) ((upc N1 19 (N1 19 0 + 1))) z0) (lv' := [(4, .int (enc (((c1 + 1 : Nat) : Int)))), (3, .int (enc (2 + z16))), (0, .ref (q 0)), (1, .ref (b9)), (2, .ref (qs 0))]) (st' := []) (rfl) (lvc (i_succ c1) (lvk (lvk (lvk (lvk (rfl)))))) rfl (ih24 (c1 + 1) ((upc N1 19 (N1 19 0 + 1))) (s1) (o1) (U1) (sU1) (oU1) (A1) (by omega) (by omega) ((hI.kAC (by omega))) (hV1) ((by show N1 19 0 + 1 = ((c1 + 1 : Nat) : Int); omega)))
        · skip
          exact absurd hc c46
  refine Tsub (lv' := [(4, .int (enc (0))), (3, .int (enc (2 + z16))), (0, .ref (q 0)), (1, .ref (b9)), (2, .ref (qs 0))]) [0, 1, 3, 4, 2] rfl ?_
  refine Teq (ws' := wD cy q (M0) (z0) (0) (M0) (z0) (0) (z0) ++ wS G cy qs (fun _ => 0) (fun _ => 0) (M0) z0) (lv' := [(4, .int (enc (((0 : Nat) : Int)))), (3, .int (enc (2 + z16))), (0, .ref (q 0)), (1, .ref (b9)), (2, .ref (qs 0))]) (st' := []) (rfl) (rfl) rfl (L24 (2 + z16 + 1).toNat 0 (M0) (z0) (0) (M0) (z0) (0) (z0) (by omega) (by omega) (hI0) (hV0) (rfl))
