/-! THE LAW'S OWN SMALL METHODS, and what it does by a number -/
theorem m_L_below {G : va_G} {cy : ClassId} (v n : Int) (hn : 1 ≤ n ∧ n ≤ 1000) : Ct G cy yL_below cL_below 2 (some .int) ({ frames := 0, cells := 0, slots := 0, locals := 0 } : Room) 0 0 [.int (enc v), .int (enc n)] [] (fun v w1 => (∃ z : Int, 0 ≤ z ∧ z < n ∧ v = some (.int (enc z))) ∧ w1 = []) := by
  refine Ct.ofI (by decide) (Nat.le_of_ble_eq_true rfl) rfl rfl (fun _ _ _ => rfl) ?_
  intro c X ret
  refine Tlv (lv' := [(0, .int (enc v)), (1, .int (enc n))]) rfl ?_
  refine tw_iload_n X dL_below_0 0 rfl rfl ?_
  refine tw_ldc X (z := 2147483647) wk_L_7 (by decide) dL_below_1 ?_
  refine tw_iand31 X dL_below_3 (fun z h0 h1 => ?_)
  refine tw_iload_n X dL_below_4 1 rfl rfl ?_
  refine tw_irem X ⟨h0, h1⟩ ⟨by omega, In_of (by omega) (by omega)⟩ dL_below_5 (fun y y0 y1 _ => ?_)
  exact ret _ _ _ _ dL_below_6 ⟨⟨y, y0, y1, rfl⟩, rfl⟩
theorem m_L_cell {G : va_G} {cy : ClassId} {b9 L9 : Nat} {xs : Nat → Int32} (hL9 : L9 ≤ 260) (j : Int) (hj : 0 ≤ j ∧ j ≤ 1000) : CtE G cy (some (b9, L9, xs)) yL_cell cL_cell 2 (some .int) ({ frames := 0, cells := 0, slots := 0, locals := 0 } : Room) 0 0 [.ref b9, .int (enc j)] [] (fun v w1 => (∃ z : Int, In z ∧ v = some (.int (enc z))) ∧ w1 = []) := by
  refine CtE.ofI (by decide) (Nat.le_of_ble_eq_true rfl) rfl rfl (fun _ _ _ => rfl) ?_
  intro c X hN hXS ret
  refine Tlv (lv' := [(0, .ref b9), (1, .int (enc j))]) rfl ?_
  refine tw_iload_n X dL_cell_0 1 rfl rfl ?_
  refine tw_aload_n X dL_cell_1 0 rfl rfl ?_
  refine tw_slen X hXS dL_cell_2 ?_
  refine tw_icmp_ge (tgt := 12) X (In_of (by omega) (by omega)) (In_of (by omega) (by omega)) dL_cell_3 (by decide) (fun c3 => ?_) (fun c3 => ?_)
  · refine tw_ldc X (z := 790386105) wk_L_8 (by decide) dL_cell_12 ?_
    refine tw_iload_n X dL_cell_14 1 rfl rfl ?_
    refine tw_iconst X dL_cell_15 ?_
    refine tw_iadd (z := j + 3) X dL_cell_16 rfl ?_
    refine tw_imul (z := 790386105 * (j + 3)) X dL_cell_17 rfl ?_
    refine Tany (fun z hz => ?_)
    exact ret _ _ _ _ dL_cell_18 ⟨⟨z, hz, rfl⟩, rfl⟩
  · refine tw_aload_n X dL_cell_6 0 rfl rfl ?_
    refine tw_iload_n X dL_cell_7 1 rfl rfl ?_
    refine tw_sld X hXS (by omega) (by omega) dL_cell_8 (fun z hz => ?_)
    refine tw_goto (tgt := 18) X dL_cell_9 (by decide) ?_
    exact ret _ _ _ _ dL_cell_18 ⟨⟨z, hz, rfl⟩, rfl⟩
theorem mod_ne {a z n : Int} (h0 : 0 ≤ a ∧ a < n) (h1 : 0 ≤ z ∧ z < n - 1) : (a + 1 + z) % n ≠ a := by
  by_cases h : a + 1 + z < n
  · rw [Int.emod_eq_of_lt (by omega) h]; omega
  · rw [← Int.sub_emod_right, Int.emod_eq_of_lt (by omega) (by omega)]; omega
theorem putR_2 (M : MT) (x y z u : Int) : putR M x y z u 2 (M 16 0) = z := ups_same _ _ _
theorem putR_3 (M : MT) (x y z u : Int) : putR M x y z u 3 (M 16 0) = u := ups_same _ _ _
theorem putR_ix {M : MT} {x y z u : Int} (h : 0 ≤ M 16 0) : 0 ≤ M 16 0 ∧ M 16 0 < putR M x y z u 16 0 := ⟨h, by show M 16 0 < M 16 0 + 1; omega⟩
theorem hours_19 (M : MT) : ∀ n : Nat, hoursM M n 19 = M 19
  | 0 => rfl
  | n + 1 => by rw [hoursM_s, hour_fix' (by omega), hours_19 M n]
theorem d9_dO {M : MT} {o : Bool} {a b : Int} (h : d9 (dst M o a b) ≠ 999) : d9 (dst M o a b) = dO M o a b ∧ 0 ≤ dO M o a b ∨ ¬ WFR M := by
  by_cases hW : WFR M
  · refine Or.inl ?_
    have h0 := (dst_ok (o := o) hW a b).1
    unfold d9 at h ⊢
    unfold dO
    by_cases q : dst M o a b < 1000000
    · rw [if_pos q, if_pos q]; exact ⟨rfl, h0⟩
    · rw [if_neg q] at h; exact absurd rfl h
  · exact Or.inr hW
set_option maxRecDepth 100000 in
set_option maxHeartbeats 4000000 in
theorem m_L_act {G : va_G} {cy : ClassId} {q qs rr tt : Nat → Nat} (N : MT) (sN : Int → Int) (oN : Int) (U : MT) (sU : Int → Int) (oU : Int) (A : Int → Int) (g : Int → Int) (x B : Int) (hI : INV N g B) (hB2 : B ≤ 500000) (hV : WVo N sN oN) : CtE G cy none yL_act cL_act 14 (some .boolean) ({ frames := 5, cells := 1200, slots := 12000, locals := 127 } : Room) 1200 12000 [.ref (q 0), .ref (qs 0), .int (enc (x))] (wD cy q N sN oN U sU oU A ++ wS G cy qs rr tt N g) (fun v w1 => v = some (.int (enc 1)) ∧ ∃ (N' : MT) (g' : Int → Int) (q' rr' tt' : Nat → Nat) (s' : Int → Int) (o' : Int) (U' : MT) (sU' : Int → Int) (oU' : Int) (A' : Int → Int), q' 0 = qs 0 ∧ INV N' g' (B + 1300) ∧ WVo N' s' o' ∧ N 19 0 ≤ N' 19 0 ∧ w1 = wD cy q N' s' o' U' sU' oU' A' ++ wS G cy q' rr' tt' N' g') := by
  refine CtE.ofI (by decide) (Nat.le_of_ble_eq_true rfl) rfl rfl (fun x w1 h => by obtain ⟨h1, -⟩ := h; cases h1; rfl) ?_
  intro c X hN hXS ret
  have hF := hI.1
  have hB := hF.bd (by omega)
  obtain ⟨w0, w1, w2, w3, w4⟩ := hF.r
  have h17 := hF.2.2.2.2.2.1
  have h172 := hF.2.2.2.2.2.2.1
  have h20 := hF.2.2.2.2.2.2.2.1
  refine Tlv (lv' := [(0, .ref (q 0)), (1, .ref (qs 0)), (2, .int (enc (x)))]) rfl ?_
  refine tw_aload_n X dL_act_0 1 rfl rfl ?_
  refine gf_L_9 X (v := .int (enc (N 19 0))) 45 rfl rfl dL_act_1 ?_
  have b1 := hB 19 0
  refine tw_istore_n (lv' := [(3, .int (enc (N 19 0))), (0, .ref (q 0)), (1, .ref (qs 0)), (2, .int (enc (x)))]) X dL_act_4 rfl (by decide) rfl ?_
  refine tw_aload_n X dL_act_5 2 rfl rfl ?_
  refine gf_L_15 X (v := .ref (qs 1)) 45 rfl rfl dL_act_6 ?_
  refine sr_lenR X (g := g) (wD cy q N sN oN U sU oU A) rfl (by omega) dL_act_9 ?_
  refine tw_istore (lv' := [(4, .int (enc (N 16 0))), (3, .int (enc (N 19 0))), (0, .ref (q 0)), (1, .ref (qs 0)), (2, .int (enc (x)))]) X dL_act_10 (by decide) rfl ?_
  refine tw_aload_n X dL_act_12 3 rfl rfl ?_
  refine gf_L_19 X (v := .ref (qs 2)) 45 rfl rfl dL_act_13 ?_
  refine sr_lenT X (g := g) (wD cy q N sN oN U sU oU A) rfl (by omega) dL_act_16 ?_
  refine tw_istore (lv' := [(5, .int (enc (N 17 0))), (4, .int (enc (N 16 0))), (3, .int (enc (N 19 0))), (0, .ref (q 0)), (1, .ref (qs 0)), (2, .int (enc (x)))]) X dL_act_17 (by decide) rfl ?_
  refine tw_iload_n X dL_act_19 5 rfl rfl ?_
  refine tw_bipush X dL_act_20 (by decide) ?_
  refine tw_ishr X dL_act_22 (fun z22 hz22 => ?_)
  refine tw_bipush X dL_act_23 (by decide) ?_
  refine tw_callS X (As := [.int (enc (z22)), .int (enc (16))]) (st := []) sw_L_22 (m_L_below (z22) (16) (by omega)) ([]) (wD cy q N sN oN U sU oU A ++ wS G cy qs rr tt N g) rfl rfl rfl ⟨rfl, rfl, Nat.le_of_ble_eq_true rfl, Nat.le_of_ble_eq_true rfl⟩ ⟨(show 0 + 0 ≤ 1200 by omega), (show 0 + 0 ≤ 12000 by omega)⟩ (Nat.le_of_ble_eq_true rfl) dL_act_25 (fun v w1 hp => ?_)
  obtain ⟨⟨z25, h25a, h25b, rfl⟩, rfl⟩ := hp
  refine Teq (ws' := wD cy q N sN oN U sU oU A ++ wS G cy qs rr tt N g) (lv' := [(5, .int (enc (N 17 0))), (4, .int (enc (N 16 0))), (3, .int (enc (N 19 0))), (0, .ref (q 0)), (1, .ref (qs 0)), (2, .int (enc (x)))]) (st' := [.int (enc (z25))]) rfl rfl rfl ?_
  refine tw_istore (lv' := [(6, .int (enc (z25))), (5, .int (enc (N 17 0))), (4, .int (enc (N 16 0))), (3, .int (enc (N 19 0))), (0, .ref (q 0)), (1, .ref (qs 0)), (2, .int (enc (x)))]) X dL_act_28 (by decide) rfl ?_
  refine tw_iload_n X dL_act_30 3 rfl rfl ?_
  refine tw_iconst X dL_act_31 ?_
  refine tw_icmp_lt (tgt := 40) X (In_of (by omega) (by omega)) (In_of (by omega) (by omega)) dL_act_32 (by decide) (fun c32 => ?_) (fun c32 => ?_)
  · skip
    refine tw_iload_n X dL_act_40 3 rfl rfl ?_
    refine tw_bipush X dL_act_41 (by decide) ?_
    refine tw_icmp_ne (tgt := 48) X (In_of (by omega) (by omega)) (In_of (by omega) (by omega)) dL_act_43 (by decide) (fun c43 => ?_) (fun c43 => ?_)
    · skip
      refine tw_aload_n X dL_act_48 5 rfl rfl ?_
      refine tw_dup X dL_act_49 rfl ?_
      refine gf_L_9 X (v := .int (enc (N 19 0))) 45 rfl rfl dL_act_50 ?_
      have b2 := hB 19 0
      refine tw_iconst X dL_act_53 ?_
      refine tw_iadd (z := (N 19 0) + 1) X dL_act_54 rfl ?_
      refine pf_L_9 X (ws' := wD cy q N sN oN U sU oU A ++ ([(qs 0, .inr (5, [.int (enc (N 20 0)), .int (enc ((N 19 0) + 1)), .ref (qs 1), .ref (qs 2)])), (qs 1, gI G (N 16 0).toNat (fun j => some (rr j))), (qs 2, gI G (N 17 0).toNat (fun j => some (tt j)))] ++ (rowsR cy rr N (N 16 0).toNat ++ rowsT cy tt N g (N 17 0).toNat))) 45 rfl (Nat.le_of_ble_eq_true rfl) rfl rfl dL_act_55 rfl ?_
      refine Tws (ws' := wD cy q N sN oN U sU oU A ++ wS G cy qs rr tt (upc N 19 ((N 19 0) + 1)) g) (congrArg (fun z => wD cy q N sN oN U sU oU A ++ z) (wS_put19 _ _ _ _ _ _ _ _)) ?_
      refine tw_aload_n X dL_act_58 4 rfl rfl ?_
      refine tw_callV X (As := []) (st := []) vw_L_28 (m_X4_addCrossing (q := q) N sN oN U sU oU A B hF (by omega) hV (by omega)) ([]) (wS G cy qs rr tt (upc N 19 ((N 19 0) + 1)) g) rfl rfl (q0 := 0) rfl rfl rfl ⟨rfl, rfl, Nat.le_of_ble_eq_true rfl, Nat.le_of_ble_eq_true rfl⟩ ⟨Nat.le_of_ble_eq_true rfl, Nat.le_of_ble_eq_true rfl⟩ (Nat.le_of_ble_eq_true rfl) dL_act_59 (fun v w1 hp => ?_)
      obtain ⟨rfl, s1, o1, U1, sU1, oU1, A1, hV1, rfl⟩ := hp
      refine Teq (ws' := wD cy q (upc N 19 (N 19 0 + 1)) s1 o1 U1 sU1 oU1 A1 ++ wS G cy qs rr tt (upc N 19 ((N 19 0) + 1)) g) (lv' := [(6, .int (enc (z25))), (5, .int (enc (N 17 0))), (4, .int (enc (N 16 0))), (3, .int (enc (N 19 0))), (0, .ref (q 0)), (1, .ref (qs 0)), (2, .int (enc (x)))]) (st' := [.int (enc (N 19 0))]) rfl rfl rfl ?_
      have b3 := hB 19 0
      refine tw_iload_n X dL_act_62 3 rfl rfl ?_
      refine tw_icmp_ne (tgt := 70) X (In_of (by omega) (by omega)) (In_of (by omega) (by omega)) dL_act_63 (by decide) (fun c63 => ?_) (fun c63 => ?_)
      · skip
        exact absurd rfl c63
      · skip
        refine tw_iconst X dL_act_66 ?_
        refine tw_goto (tgt := 71) X dL_act_67 (by decide) ?_
        refine Twiden (k' := 1200) (n' := 12000) (by omega) (by omega) ?_
        exact ret _ _ _ _ dL_act_71 ⟨rfl, (upc N 19 (N 19 0 + 1)), g, qs, rr, tt, s1, o1, U1, sU1, oU1, A1, rfl, INV.mono (hI.kAC (by omega)) (by omega), hV1, (show N 19 0 ≤ N 19 0 + 1 by omega), rfl⟩
    · skip
      refine tw_iconst X dL_act_46 ?_
      refine Twiden (k' := 1200) (n' := 12000) (by omega) (by omega) ?_
      exact ret _ _ _ _ dL_act_47 ⟨rfl, N, g, qs, rr, tt, sN, oN, U, sU, oU, A, rfl, INV.mono hI (by omega), hV, Int.le_refl _, rfl⟩
  · skip
    refine tw_iload X dL_act_35 0 rfl ?_
    refine tw_if_ne (tgt := 72) X (In_of (by omega) (by omega)) dL_act_37 (by decide) (fun c37 => ?_) (fun c37 => ?_)
    · skip
      refine tw_iload_n X dL_act_72 6 rfl rfl ?_
      refine tw_iconst X dL_act_73 ?_
      refine tw_ishr X dL_act_74 (fun z74 hz74 => ?_)
      refine tw_iload_n X dL_act_75 3 rfl rfl ?_
      refine tw_callS X (As := [.int (enc (z74)), .int (enc (N 19 0))]) (st := []) sw_L_22 (m_L_below (z74) (N 19 0) (by omega)) ([]) (wD cy q N sN oN U sU oU A ++ wS G cy qs rr tt N g) rfl rfl rfl ⟨rfl, rfl, Nat.le_of_ble_eq_true rfl, Nat.le_of_ble_eq_true rfl⟩ ⟨(show 0 + 0 ≤ 1200 by omega), (show 0 + 0 ≤ 12000 by omega)⟩ (Nat.le_of_ble_eq_true rfl) dL_act_76 (fun v w1 hp => ?_)
      obtain ⟨⟨z76, h76a, h76b, rfl⟩, rfl⟩ := hp
      refine Teq (ws' := wD cy q N sN oN U sU oU A ++ wS G cy qs rr tt N g) (lv' := [(6, .int (enc (z25))), (5, .int (enc (N 17 0))), (4, .int (enc (N 16 0))), (3, .int (enc (N 19 0))), (0, .ref (q 0)), (1, .ref (qs 0)), (2, .int (enc (x)))]) (st' := [.int (enc (z76))]) rfl rfl rfl ?_
      refine tw_istore (lv' := [(7, .int (enc (z76))), (6, .int (enc (z25))), (5, .int (enc (N 17 0))), (4, .int (enc (N 16 0))), (3, .int (enc (N 19 0))), (0, .ref (q 0)), (1, .ref (qs 0)), (2, .int (enc (x)))]) X dL_act_79 (by decide) rfl ?_
      refine tw_iload X dL_act_81 0 rfl ?_
      refine tw_iconst X dL_act_83 ?_
      refine tw_iadd (z := z76 + 1) X dL_act_84 rfl ?_
      refine tw_iload_n X dL_act_85 7 rfl rfl ?_
      refine tw_iconst X dL_act_86 ?_
      refine tw_ishr X dL_act_87 (fun z87 hz87 => ?_)
      refine tw_iload_n X dL_act_88 4 rfl rfl ?_
      refine tw_iconst X dL_act_89 ?_
      refine tw_isub (z := (N 19 0) - 1) X dL_act_90 rfl ?_
      refine tw_callS X (As := [.int (enc (z87)), .int (enc ((N 19 0) - 1))]) (st := [.int (enc (z76 + 1))]) sw_L_22 (m_L_below (z87) ((N 19 0) - 1) (by omega)) ([]) (wD cy q N sN oN U sU oU A ++ wS G cy qs rr tt N g) rfl rfl rfl ⟨rfl, rfl, Nat.le_of_ble_eq_true rfl, Nat.le_of_ble_eq_true rfl⟩ ⟨(show 0 + 0 ≤ 1200 by omega), (show 0 + 0 ≤ 12000 by omega)⟩ (Nat.le_of_ble_eq_true rfl) dL_act_91 (fun v w1 hp => ?_)
      obtain ⟨⟨z91, h91a, h91b, rfl⟩, rfl⟩ := hp
      refine Teq (ws' := wD cy q N sN oN U sU oU A ++ wS G cy qs rr tt N g) (lv' := [(7, .int (enc (z76))), (6, .int (enc (z25))), (5, .int (enc (N 17 0))), (4, .int (enc (N 16 0))), (3, .int (enc (N 19 0))), (0, .ref (q 0)), (1, .ref (qs 0)), (2, .int (enc (x)))]) (st' := [.int (enc (z91)), .int (enc (z76 + 1))]) rfl rfl rfl ?_
      refine tw_iadd (z := (z76 + 1) + z91) X dL_act_94 rfl ?_
      refine tw_iload_n X dL_act_95 4 rfl rfl ?_
      refine tw_irem X ⟨by omega, In_of (by omega) (by omega)⟩ ⟨by omega, In_of (by omega) (by omega)⟩ dL_act_96 (fun z96 h96a h96b h96e => ?_)
      have hab : z76 ≠ z96 := fun e => mod_ne (a := z76) (z := z91) (n := N 19 0) (by omega) (by omega) (by rw [← h96e, e])
      refine tw_istore (lv' := [(8, .int (enc (z96))), (7, .int (enc (z76))), (6, .int (enc (z25))), (5, .int (enc (N 17 0))), (4, .int (enc (N 16 0))), (3, .int (enc (N 19 0))), (0, .ref (q 0)), (1, .ref (qs 0)), (2, .int (enc (x)))]) X dL_act_97 (by decide) rfl ?_
      refine tw_iload X dL_act_99 4 rfl ?_
      refine tw_if_eq (tgt := 110) X (In_of (by omega) (by omega)) dL_act_101 (by decide) (fun c101 => ?_) (fun c101 => ?_)
      · skip
        refine tw_iload X dL_act_110 4 rfl ?_
        refine tw_bipush X dL_act_112 (by decide) ?_
        refine tw_icmp_ne (tgt := 119) X (In_of (by omega) (by omega)) (In_of (by omega) (by omega)) dL_act_114 (by decide) (fun c114 => ?_) (fun c114 => ?_)
        · skip
          refine tw_bipush X dL_act_119 (by decide) ?_
          refine tw_newa X (N := 7) rfl (by omega) (show 0 + 1 ≤ 1200 by omega) (show 0 + 7 ≤ 12000 by omega) dL_act_121 (fun qa121 => ?_)
          refine Tnew (wD cy q N sN oN U sU oU A) (wS G cy qs rr tt N g) ([(qa121, arI cy 7 (fun _ => 0))]) (ws' := wD cy q N sN oN U sU oU A ++ [(qa121, arI cy 7 (fun _ => 0))] ++ wS G cy qs rr tt N g) rfl rfl ?_
          refine Twiden (k' := 0 + 1) (n' := 0 + 7) (by omega) (by omega) ?_
          refine tw_dup X dL_act_123 rfl ?_
          refine tw_iconst X dL_act_124 ?_
          refine tw_iload X dL_act_125 1 rfl ?_
          refine tw_iast X (N := 7) (f := (fun _ => 0)) (ws' := wD cy q N sN oN U sU oU A ++ [(qa121, arI cy 7 (ups (fun _ => 0) (0) (z76)))] ++ wS G cy qs rr tt N g) 45 rfl (by decide) (by omega) dL_act_127 rfl ?_
          refine tw_dup X dL_act_128 rfl ?_
          refine tw_iconst X dL_act_129 ?_
          refine tw_iload X dL_act_130 0 rfl ?_
          refine tw_iast X (N := 7) (f := (ups (fun _ => 0) (0) (z76))) (ws' := wD cy q N sN oN U sU oU A ++ [(qa121, arI cy 7 (ups (ups (fun _ => 0) (0) (z76)) (1) (z96)))] ++ wS G cy qs rr tt N g) 45 rfl (by decide) (by omega) dL_act_132 rfl ?_
          refine tw_dup X dL_act_133 rfl ?_
          refine tw_iconst X dL_act_134 ?_
          refine tw_iconst X dL_act_135 ?_
          refine tw_iload_n X dL_act_136 8 rfl rfl ?_
          refine tw_iconst X dL_act_137 ?_
          refine tw_ishr X dL_act_138 (fun z138 hz138 => ?_)
          refine tw_bipush X dL_act_139 (by decide) ?_
          refine tw_callS X (As := [.int (enc (z138)), .int (enc (9))]) (st := [.int (enc (1)), .int (enc (2)), .ref (qa121), .ref (qa121)]) sw_L_22 (m_L_below (z138) (9) (by omega)) ([]) (wD cy q N sN oN U sU oU A ++ [(qa121, arI cy 7 (ups (ups (fun _ => 0) (0) (z76)) (1) (z96)))] ++ wS G cy qs rr tt N g) rfl rfl rfl ⟨rfl, rfl, Nat.le_of_ble_eq_true rfl, Nat.le_of_ble_eq_true rfl⟩ ⟨(show 0 + 1 + 0 ≤ 1200 by omega), (show 0 + 7 + 0 ≤ 12000 by omega)⟩ (Nat.le_of_ble_eq_true rfl) dL_act_141 (fun v w1 hp => ?_)
          obtain ⟨⟨z141, h141a, h141b, rfl⟩, rfl⟩ := hp
          refine Teq (ws' := wD cy q N sN oN U sU oU A ++ [(qa121, arI cy 7 (ups (ups (fun _ => 0) (0) (z76)) (1) (z96)))] ++ wS G cy qs rr tt N g) (lv' := [(8, .int (enc (z96))), (7, .int (enc (z76))), (6, .int (enc (z25))), (5, .int (enc (N 17 0))), (4, .int (enc (N 16 0))), (3, .int (enc (N 19 0))), (0, .ref (q 0)), (1, .ref (qs 0)), (2, .int (enc (x)))]) (st' := [.int (enc (z141)), .int (enc (1)), .int (enc (2)), .ref (qa121), .ref (qa121)]) rfl rfl rfl ?_
          refine tw_iadd (z := 1 + z141) X dL_act_144 rfl ?_
          refine tw_iast X (N := 7) (f := (ups (ups (fun _ => 0) (0) (z76)) (1) (z96))) (ws' := wD cy q N sN oN U sU oU A ++ [(qa121, arI cy 7 (ups (ups (ups (fun _ => 0) (0) (z76)) (1) (z96)) (2) (1 + z141)))] ++ wS G cy qs rr tt N g) 45 rfl (by decide) (by omega) dL_act_145 rfl ?_
          refine tw_dup X dL_act_146 rfl ?_
          refine tw_iconst X dL_act_147 ?_
          refine tw_iload_n X dL_act_148 8 rfl rfl ?_
          refine tw_bipush X dL_act_149 (by decide) ?_
          refine tw_ishr X dL_act_151 (fun z151 hz151 => ?_)
          refine tw_iconst X dL_act_152 ?_
          refine tw_callS X (As := [.int (enc (z151)), .int (enc (4))]) (st := [.int (enc (3)), .ref (qa121), .ref (qa121)]) sw_L_22 (m_L_below (z151) (4) (by omega)) ([]) (wD cy q N sN oN U sU oU A ++ [(qa121, arI cy 7 (ups (ups (ups (fun _ => 0) (0) (z76)) (1) (z96)) (2) (1 + z141)))] ++ wS G cy qs rr tt N g) rfl rfl rfl ⟨rfl, rfl, Nat.le_of_ble_eq_true rfl, Nat.le_of_ble_eq_true rfl⟩ ⟨(show 0 + 1 + 0 ≤ 1200 by omega), (show 0 + 7 + 0 ≤ 12000 by omega)⟩ (Nat.le_of_ble_eq_true rfl) dL_act_153 (fun v w1 hp => ?_)
          obtain ⟨⟨z153, h153a, h153b, rfl⟩, rfl⟩ := hp
          refine Teq (ws' := wD cy q N sN oN U sU oU A ++ [(qa121, arI cy 7 (ups (ups (ups (fun _ => 0) (0) (z76)) (1) (z96)) (2) (1 + z141)))] ++ wS G cy qs rr tt N g) (lv' := [(8, .int (enc (z96))), (7, .int (enc (z76))), (6, .int (enc (z25))), (5, .int (enc (N 17 0))), (4, .int (enc (N 16 0))), (3, .int (enc (N 19 0))), (0, .ref (q 0)), (1, .ref (qs 0)), (2, .int (enc (x)))]) (st' := [.int (enc (z153)), .int (enc (3)), .ref (qa121), .ref (qa121)]) rfl rfl rfl ?_
          refine tw_iast X (N := 7) (f := (ups (ups (ups (fun _ => 0) (0) (z76)) (1) (z96)) (2) (1 + z141))) (ws' := wD cy q N sN oN U sU oU A ++ [(qa121, arI cy 7 (ups (ups (ups (ups (fun _ => 0) (0) (z76)) (1) (z96)) (2) (1 + z141)) (3) (z153)))] ++ wS G cy qs rr tt N g) 45 rfl (by decide) (by omega) dL_act_156 rfl ?_
          refine tw_dup X dL_act_157 rfl ?_
          refine tw_iconst X dL_act_158 ?_
          refine tw_iconst X dL_act_159 ?_
          refine tw_iast X (N := 7) (f := (ups (ups (ups (ups (fun _ => 0) (0) (z76)) (1) (z96)) (2) (1 + z141)) (3) (z153))) (ws' := wD cy q N sN oN U sU oU A ++ [(qa121, arI cy 7 (ups (ups (ups (ups (ups (fun _ => 0) (0) (z76)) (1) (z96)) (2) (1 + z141)) (3) (z153)) (4) (0)))] ++ wS G cy qs rr tt N g) 45 rfl (by decide) (by omega) dL_act_160 rfl ?_
          refine tw_dup X dL_act_161 rfl ?_
          refine tw_iconst X dL_act_162 ?_
          refine tw_iconst X dL_act_163 ?_
          refine tw_iast X (N := 7) (f := (ups (ups (ups (ups (ups (fun _ => 0) (0) (z76)) (1) (z96)) (2) (1 + z141)) (3) (z153)) (4) (0))) (ws' := wD cy q N sN oN U sU oU A ++ [(qa121, arI cy 7 (ups (ups (ups (ups (ups (ups (fun _ => 0) (0) (z76)) (1) (z96)) (2) (1 + z141)) (3) (z153)) (4) (0)) (5) (0)))] ++ wS G cy qs rr tt N g) 45 rfl (by decide) (by omega) dL_act_164 rfl ?_
          refine tw_dup X dL_act_165 rfl ?_
          refine tw_bipush X dL_act_166 (by decide) ?_
          refine tw_iconst X dL_act_168 ?_
          refine tw_iast X (N := 7) (f := (ups (ups (ups (ups (ups (ups (fun _ => 0) (0) (z76)) (1) (z96)) (2) (1 + z141)) (3) (z153)) (4) (0)) (5) (0))) (ws' := wD cy q N sN oN U sU oU A ++ [(qa121, arI cy 7 (ups (ups (ups (ups (ups (ups (ups (fun _ => 0) (0) (z76)) (1) (z96)) (2) (1 + z141)) (3) (z153)) (4) (0)) (5) (0)) (6) (0)))] ++ wS G cy qs rr tt N g) 45 rfl (by decide) (by omega) dL_act_169 rfl ?_
          refine tw_astore (lv' := [(9, .ref (qa121)), (8, .int (enc (z96))), (7, .int (enc (z76))), (6, .int (enc (z25))), (5, .int (enc (N 17 0))), (4, .int (enc (N 16 0))), (3, .int (enc (N 19 0))), (0, .ref (q 0)), (1, .ref (qs 0)), (2, .int (enc (x)))]) X dL_act_170 (by decide) rfl ?_
          refine Tws (ws' := wD cy q N sN oN U sU oU A ++ [(qa121, arI cy 7 (rowA (z76) (z96) (1 + z141) (z153)))] ++ wS G cy qs rr tt N g) rfl ?_
          refine tw_aload_n X dL_act_172 8 rfl rfl ?_
          refine tw_aload_n X dL_act_173 8 rfl rfl ?_
          refine gf_L_15 X (v := .ref (qs 1)) 46 rfl rfl dL_act_174 ?_
          refine tw_aload X dL_act_177 0 rfl ?_
          refine sr_addR X hN (wD cy q N sN oN U sU oU A) (a := qa121) (M := N) (g := g) (q := qs) (rr := rr) (tt := tt) (x := z76) (y := z96) (z := 1 + z141) (u := z153) hI.2.1 (by omega) rfl ⟨Nat.le_of_ble_eq_true rfl, Nat.le_of_ble_eq_true rfl⟩ ⟨(show 0 + 1 + 1 ≤ 1200 by omega), (show 0 + 7 + 21 ≤ 12000 by omega)⟩ (Nat.le_of_ble_eq_true rfl) dL_act_179 dL_act_182 (fun b179 => ?_)
          generalize hrr : (fun j => if j < (N 16 0).toNat then rr j else qa121) = rr179
          have hr9 : rr179 (N 16 0).toNat = qa121 := by rw [← hrr]; exact if_neg (Nat.lt_irrefl _)
          clear hrr
          subst hr9
          refine Teq (ws' := wD cy q N sN oN U sU oU A ++ wS G cy (fun i => cond (Nat.beq i 1) b179 (qs i)) rr179 tt (putR N (z76) (z96) (1 + z141) (z153)) g) (lv' := [(9, .ref (rr179 (N 16 0).toNat)), (8, .int (enc (z96))), (7, .int (enc (z76))), (6, .int (enc (z25))), (5, .int (enc (N 17 0))), (4, .int (enc (N 16 0))), (3, .int (enc (N 19 0))), (0, .ref (q 0)), (1, .ref ((fun i => cond (Nat.beq i 1) b179 (qs i)) 0)), (2, .int (enc (x)))]) (st' := []) rfl rfl rfl ?_
          refine tw_aload_n X dL_act_185 7 rfl rfl ?_
          refine tw_iload X dL_act_186 2 rfl ?_
          refine tw_iload X dL_act_188 1 rfl ?_
          refine tw_aload X dL_act_190 0 rfl ?_
          refine tw_iconst X dL_act_192 ?_
          refine sr_ldR X (g := g) (M := (putR N (z76) (z96) (1 + z141) (z153))) (r := N 16 0) (v := (putR N (z76) (z96) (1 + z141) (z153)) 2 (N 16 0)) (wD cy q N sN oN U sU oU A) rfl (putR_ix (by omega)) (by decide) rfl dL_act_193 ?_
          refine Tst (st' := [.int (enc (1 + z141)), .int (enc (z96)), .int (enc (z76)), .ref (q 0)]) (by rw [putR_2]) ?_
          refine tw_aload X dL_act_194 0 rfl ?_
          refine tw_iconst X dL_act_196 ?_
          refine sr_ldR X (g := g) (M := (putR N (z76) (z96) (1 + z141) (z153))) (r := N 16 0) (v := (putR N (z76) (z96) (1 + z141) (z153)) 3 (N 16 0)) (wD cy q N sN oN U sU oU A) rfl (putR_ix (by omega)) (by decide) rfl dL_act_197 ?_
          refine Tst (st' := [.int (enc (z153)), .int (enc (1 + z141)), .int (enc (z96)), .int (enc (z76)), .ref (q 0)]) (by rw [putR_3]) ?_
          refine tw_callV X (As := [.int (enc (z76)), .int (enc (z96)), .int (enc (1 + z141)), .int (enc (z153))]) (st := []) vw_L_38 (m_X4_addRoad (q := q) N sN oN U sU oU A (z76) (by omega) (z96) (by omega) hab (1 + z141) (z153) (by omega) (by omega) (by omega) B hF (by omega) hV) ([]) (wS G cy (fun i => cond (Nat.beq i 1) b179 (qs i)) rr179 tt (putR N (z76) (z96) (1 + z141) (z153)) g) rfl rfl (q0 := 0) rfl rfl rfl ⟨rfl, rfl, Nat.le_of_ble_eq_true rfl, Nat.le_of_ble_eq_true rfl⟩ ⟨(show 0 + 1 + 1 + 0 ≤ 1200 by omega), (show 0 + 7 + 21 + 0 ≤ 12000 by omega)⟩ (Nat.le_of_ble_eq_true rfl) dL_act_198 (fun v w1 hp => ?_)
          obtain ⟨rfl, s1, o1, U1, sU1, oU1, A1, hV1, rfl⟩ := hp
          refine Teq (ws' := wD cy q (putR N (z76) (z96) (1 + z141) (z153)) s1 o1 U1 sU1 oU1 A1 ++ wS G cy (fun i => cond (Nat.beq i 1) b179 (qs i)) rr179 tt (putR N (z76) (z96) (1 + z141) (z153)) g) (lv' := [(9, .ref (rr179 (N 16 0).toNat)), (8, .int (enc (z96))), (7, .int (enc (z76))), (6, .int (enc (z25))), (5, .int (enc (N 17 0))), (4, .int (enc (N 16 0))), (3, .int (enc (N 19 0))), (0, .ref (q 0)), (1, .ref ((fun i => cond (Nat.beq i 1) b179 (qs i)) 0)), (2, .int (enc (x)))]) (st' := [.int (enc (N 16 0))]) rfl rfl rfl ?_
          have b4 := hB 16 0
          refine tw_iload X dL_act_201 5 rfl ?_
          refine tw_icmp_ne (tgt := 210) X (In_of (by omega) (by omega)) (In_of (by omega) (by omega)) dL_act_203 (by decide) (fun c203 => ?_) (fun c203 => ?_)
          · skip
            exact absurd rfl c203
          · skip
            refine tw_iconst X dL_act_206 ?_
            refine tw_goto (tgt := 211) X dL_act_207 (by decide) ?_
            refine Twiden (k' := 1200) (n' := 12000) (by omega) (by omega) ?_
            exact ret _ _ _ _ dL_act_211 ⟨rfl, (putR N (z76) (z96) (1 + z141) (z153)), g, (fun i => cond (Nat.beq i 1) b179 (qs i)), rr179, tt, s1, o1, U1, sU1, oU1, A1, rfl, INV.mono (hI.kAR (by omega) (by omega) hab (by omega) (by omega) (by omega)) (by omega), hV1, Int.le_refl _, rfl⟩
        · skip
          refine tw_iconst X dL_act_117 ?_
          refine Twiden (k' := 1200) (n' := 12000) (by omega) (by omega) ?_
          exact ret _ _ _ _ dL_act_118 ⟨rfl, N, g, qs, rr, tt, sN, oN, U, sU, oU, A, rfl, INV.mono hI (by omega), hV, Int.le_refl _, rfl⟩
      · skip
        refine tw_iload X dL_act_104 2 rfl ?_
        refine tw_iconst X dL_act_106 ?_
        refine tw_icmp_ge (tgt := 212) X (In_of (by omega) (by omega)) (In_of (by omega) (by omega)) dL_act_107 (by decide) (fun c107 => ?_) (fun c107 => ?_)
        · skip
          refine tw_iload_n X dL_act_212 8 rfl rfl ?_
          refine tw_iconst X dL_act_213 ?_
          refine tw_ishr X dL_act_214 (fun z214 hz214 => ?_)
          refine tw_iload X dL_act_215 4 rfl ?_
          refine tw_callS X (As := [.int (enc (z214)), .int (enc (N 16 0))]) (st := []) sw_L_22 (m_L_below (z214) (N 16 0) (by omega)) ([]) (wD cy q N sN oN U sU oU A ++ wS G cy qs rr tt N g) rfl rfl rfl ⟨rfl, rfl, Nat.le_of_ble_eq_true rfl, Nat.le_of_ble_eq_true rfl⟩ ⟨(show 0 + 0 ≤ 1200 by omega), (show 0 + 0 ≤ 12000 by omega)⟩ (Nat.le_of_ble_eq_true rfl) dL_act_217 (fun v w1 hp => ?_)
          obtain ⟨⟨z217, h217a, h217b, rfl⟩, rfl⟩ := hp
          refine Teq (ws' := wD cy q N sN oN U sU oU A ++ wS G cy qs rr tt N g) (lv' := [(8, .int (enc (z96))), (7, .int (enc (z76))), (6, .int (enc (z25))), (5, .int (enc (N 17 0))), (4, .int (enc (N 16 0))), (3, .int (enc (N 19 0))), (0, .ref (q 0)), (1, .ref (qs 0)), (2, .int (enc (x)))]) (st' := [.int (enc (z217))]) rfl rfl rfl ?_
          have hri : 0 ≤ z217 ∧ z217 < N 16 0 := by omega
          have d6 := hF.2.2.2.1 z217
          refine tw_istore (lv' := [(9, .int (enc (z217))), (8, .int (enc (z96))), (7, .int (enc (z76))), (6, .int (enc (z25))), (5, .int (enc (N 17 0))), (4, .int (enc (N 16 0))), (3, .int (enc (N 19 0))), (0, .ref (q 0)), (1, .ref (qs 0)), (2, .int (enc (x)))]) X dL_act_220 (by decide) rfl ?_
          refine tw_aload_n X dL_act_222 8 rfl rfl ?_
          refine gf_L_15 X (v := .ref (qs 1)) 45 rfl rfl dL_act_223 ?_
          refine tw_iload X dL_act_226 0 rfl ?_
          refine sr_aaR X (g := g) (M := N) (r := z217) (wD cy q N sN oN U sU oU A) rfl hri (by omega) dL_act_228 ?_
          refine tw_astore (lv' := [(10, .ref (rr (z217).toNat)), (9, .int (enc (z217))), (8, .int (enc (z96))), (7, .int (enc (z76))), (6, .int (enc (z25))), (5, .int (enc (N 17 0))), (4, .int (enc (N 16 0))), (3, .int (enc (N 19 0))), (0, .ref (q 0)), (1, .ref (qs 0)), (2, .int (enc (x)))]) X dL_act_229 (by decide) rfl ?_
          refine tw_iload X dL_act_231 4 rfl ?_
          by_cases e25 : z25 ≤ 7
          · refine tw_tabIn (off := 35) (tgt := 268) X (In_of (by omega) (by omega)) (by omega) (by omega) dL_act_233 (by rcases (show z25 = 5 ∨ z25 = 6 ∨ z25 = 7 by omega) with e | e | e <;> rw [e] <;> rfl) (by decide) ?_
            refine tw_aload_n X dL_act_268 9 rfl rfl ?_
            refine tw_iload X dL_act_269 3 rfl ?_
            refine tw_iload X dL_act_271 2 rfl ?_
            refine tw_callV X (As := [.int (enc (z76)), .int (enc (z96))]) (st := []) vw_L_42 (m_X5_tourist (q := qs) (rr := rr) (tt := tt) N g B hF (by omega) z76 z96 (by omega) (by omega)) (wD cy q N sN oN U sU oU A) ([]) (sY _ _) rfl (q0 := 0) rfl rfl rfl ⟨rfl, rfl, Nat.le_of_ble_eq_true rfl, Nat.le_of_ble_eq_true rfl⟩ ⟨(show 0 + 3 ≤ 1200 by omega), (show 0 + 29 ≤ 12000 by omega)⟩ (Nat.le_of_ble_eq_true rfl) dL_act_273 (fun v w1 hp => ?_)
            obtain ⟨at9, rfl, rfl⟩ := hp
            refine Teq (ws' := wD cy q N sN oN U sU oU A ++ [(at9, arI cy 9 (rowN z76 z96 (N 20 0) (d9 (dst N false z76 z96))))] ++ wS G cy qs rr tt N g) (lv' := [(10, .ref (rr (z217).toNat)), (9, .int (enc (z217))), (8, .int (enc (z96))), (7, .int (enc (z76))), (6, .int (enc (z25))), (5, .int (enc (N 17 0))), (4, .int (enc (N 16 0))), (3, .int (enc (N 19 0))), (0, .ref (q 0)), (1, .ref (qs 0)), (2, .int (enc (x)))]) (st' := [.ref (at9)]) (sY2 _ _ _) rfl rfl ?_
            refine tw_astore (lv' := [(11, .ref (at9)), (10, .ref (rr (z217).toNat)), (9, .int (enc (z217))), (8, .int (enc (z96))), (7, .int (enc (z76))), (6, .int (enc (z25))), (5, .int (enc (N 17 0))), (4, .int (enc (N 16 0))), (3, .int (enc (N 19 0))), (0, .ref (q 0)), (1, .ref (qs 0)), (2, .int (enc (x)))]) X dL_act_276 (by decide) rfl ?_
            refine tw_iload X dL_act_278 6 rfl ?_
            refine tw_bipush X dL_act_280 (by decide) ?_
            refine tw_icmp_eq (tgt := 296) X (In_of (by omega) (by omega)) (In_of (by omega) (by omega)) dL_act_282 (by decide) (fun c282 => ?_) (fun c282 => ?_)
            · skip
              refine tw_iconst X dL_act_296 ?_
              refine Tgone (wD cy q N sN oN U sU oU A) (wS G cy qs rr tt N g) ([(at9, arI cy 9 (rowN z76 z96 (N 20 0) (d9 (dst N false z76 z96))))]) (ws' := wD cy q N sN oN U sU oU A ++ wS G cy qs rr tt N g) rfl rfl ?_
              refine Twiden (k' := 1200) (n' := 12000) (by omega) (by omega) ?_
              exact ret _ _ _ _ dL_act_297 ⟨rfl, N, g, qs, rr, tt, sN, oN, U, sU, oU, A, rfl, INV.mono hI (by omega), hV, Int.le_refl _, rfl⟩
            · skip
              refine tw_aload X dL_act_285 0 rfl ?_
              refine tw_bipush X dL_act_287 (by decide) ?_
              refine tw_iald X (N := 9) (f := (rowN z76 z96 (N 20 0) (d9 (dst N false z76 z96)))) 45 rfl (by decide) (by omega) dL_act_289 ?_
              refine Tst (st' := [.int (enc (d9 (dst N false z76 z96)))]) (rfl) ?_
              have hd9 := d9_rng (o := false) hF.r (a := z76) (b := z96) (by omega)
              refine tw_sipush X dL_act_290 (by decide) ?_
              refine tw_icmp_ne (tgt := 298) X (In_of (by omega) (by omega)) (In_of (by omega) (by omega)) dL_act_293 (by decide) (fun c293 => ?_) (fun c293 => ?_)
              · skip
                have hds := (d9_dO c293).elim id (fun z => absurd hF.r z)
                have hdr := dO_rng hF.r (o := false) (a := z76) (b := z96) (by omega)
                refine Tws (ws' := wD cy q N sN oN U sU oU A ++ [(at9, arI cy 9 (rowN (z76) (z96) (N 20 0) (dO N false z76 z96)))] ++ wS G cy qs rr tt N g) (by rw [hds.1]) ?_
                refine tw_aload_n X dL_act_298 10 rfl rfl ?_
                refine tw_aload_n X dL_act_299 10 rfl rfl ?_
                refine gf_L_19 X (v := .ref (qs 2)) 46 rfl rfl dL_act_300 ?_
                refine tw_aload X dL_act_303 0 rfl ?_
                refine sr_addT X hN (wD cy q N sN oN U sU oU A) (a := at9) (M := N) (g := g) (q := qs) (rr := rr) (tt := tt) (x := z76) (y := z96) (s := dO N false z76 z96) hI.2.1 (by omega) rfl ⟨Nat.le_of_ble_eq_true rfl, Nat.le_of_ble_eq_true rfl⟩ ⟨(show 0 + 3 + 1 ≤ 1200 by omega), (show 0 + 29 + 21 ≤ 12000 by omega)⟩ (Nat.le_of_ble_eq_true rfl) dL_act_305 dL_act_308 (fun b305 => ?_)
                generalize hrr : (fun j => if j < (N 17 0).toNat then tt j else at9) = tt305
                have hr9 : tt305 (N 17 0).toNat = at9 := by rw [← hrr]; exact if_neg (Nat.lt_irrefl _)
                clear hrr
                subst hr9
                refine Teq (ws' := wD cy q N sN oN U sU oU A ++ wS G cy (fun i => cond (Nat.beq i 2) b305 (qs i)) rr tt305 (putT N (z76) (z96) (dO N false z76 z96) (N 20 0)) (ups g (N 17 0) (-1))) (lv' := [(11, .ref (tt305 (N 17 0).toNat)), (10, .ref (rr (z217).toNat)), (9, .int (enc (z217))), (8, .int (enc (z96))), (7, .int (enc (z76))), (6, .int (enc (z25))), (5, .int (enc (N 17 0))), (4, .int (enc (N 16 0))), (3, .int (enc (N 19 0))), (0, .ref (q 0)), (1, .ref ((fun i => cond (Nat.beq i 2) b305 (qs i)) 0)), (2, .int (enc (x)))]) (st' := []) rfl rfl rfl ?_
                refine tw_aload_n X dL_act_311 9 rfl rfl ?_
                refine tw_iload X dL_act_312 4 rfl ?_
                refine tw_iload X dL_act_314 3 rfl ?_
                refine tw_callV X (As := [.int (enc (z76)), .int (enc (z96))]) (st := []) vw_L_46 (m_X4_addTourist (q := q) N sN oN U sU oU A (z76) (by omega) (z96) (by omega) hab (by omega) hds.2 B hF (by omega) hV) ([]) (wS G cy (fun i => cond (Nat.beq i 2) b305 (qs i)) rr tt305 (putT N (z76) (z96) (dO N false z76 z96) (N 20 0)) (ups g (N 17 0) (-1))) rfl rfl (q0 := 0) rfl rfl rfl ⟨rfl, rfl, Nat.le_of_ble_eq_true rfl, Nat.le_of_ble_eq_true rfl⟩ ⟨(show 0 + 3 + 1 + 0 ≤ 1200 by omega), (show 0 + 29 + 21 + 0 ≤ 12000 by omega)⟩ (Nat.le_of_ble_eq_true rfl) dL_act_316 (fun v w1 hp => ?_)
                obtain ⟨rfl, s1, o1, U1, sU1, oU1, A1, hV1, rfl⟩ := hp
                refine Teq (ws' := wD cy q (putT N (z76) (z96) (dO N false z76 z96) (N 20 0)) s1 o1 U1 sU1 oU1 A1 ++ wS G cy (fun i => cond (Nat.beq i 2) b305 (qs i)) rr tt305 (putT N (z76) (z96) (dO N false z76 z96) (N 20 0)) (ups g (N 17 0) (-1))) (lv' := [(11, .ref (tt305 (N 17 0).toNat)), (10, .ref (rr (z217).toNat)), (9, .int (enc (z217))), (8, .int (enc (z96))), (7, .int (enc (z76))), (6, .int (enc (z25))), (5, .int (enc (N 17 0))), (4, .int (enc (N 16 0))), (3, .int (enc (N 19 0))), (0, .ref (q 0)), (1, .ref ((fun i => cond (Nat.beq i 2) b305 (qs i)) 0)), (2, .int (enc (x)))]) (st' := [.int (enc (N 17 0))]) rfl rfl rfl ?_
                have b5 := hB 17 0
                refine tw_iload X dL_act_319 6 rfl ?_
                refine tw_icmp_ne (tgt := 328) X (In_of (by omega) (by omega)) (In_of (by omega) (by omega)) dL_act_321 (by decide) (fun c321 => ?_) (fun c321 => ?_)
                · skip
                  exact absurd rfl c321
                · skip
                  refine tw_iconst X dL_act_324 ?_
                  refine tw_goto (tgt := 329) X dL_act_325 (by decide) ?_
                  refine Twiden (k' := 1200) (n' := 12000) (by omega) (by omega) ?_
                  exact ret _ _ _ _ dL_act_329 ⟨rfl, (putT N (z76) (z96) (dO N false z76 z96) (N 20 0)), (ups g (N 17 0) (-1)), (fun i => cond (Nat.beq i 2) b305 (qs i)), rr, tt305, s1, o1, U1, sU1, oU1, A1, rfl, INV.mono (hI.kAT (by omega) (by omega) hab (by omega) (by omega)) (by omega), hV1, Int.le_refl _, rfl⟩
              · skip
                refine tw_iconst X dL_act_296 ?_
                refine Tgone (wD cy q N sN oN U sU oU A) (wS G cy qs rr tt N g) ([(at9, arI cy 9 (rowN z76 z96 (N 20 0) (d9 (dst N false z76 z96))))]) (ws' := wD cy q N sN oN U sU oU A ++ wS G cy qs rr tt N g) rfl rfl ?_
                refine Twiden (k' := 1200) (n' := 12000) (by omega) (by omega) ?_
                exact ret _ _ _ _ dL_act_297 ⟨rfl, N, g, qs, rr, tt, sN, oN, U, sU, oU, A, rfl, INV.mono hI (by omega), hV, Int.le_refl _, rfl⟩
          by_cases e8 : z25 = 8
          · refine tw_tabIn (off := 97) (tgt := 330) X (In_of (by omega) (by omega)) (by omega) (by omega) dL_act_233 (by rw [e8]; rfl) (by decide) ?_
            refine tw_aload X dL_act_330 0 rfl ?_
            refine tw_iconst X dL_act_332 ?_
            refine sr_ldR X (g := g) (M := N) (r := z217) (v := N 6 z217) (wD cy q N sN oN U sU oU A) rfl hri (by decide) rfl dL_act_333 ?_
            have b6 := hB 6 z217
            refine tw_if_le (tgt := 339) X (In_of (by omega) (by omega)) dL_act_334 (by decide) (fun c334 => ?_) (fun c334 => ?_)
            · skip
              refine tw_aload X dL_act_339 0 rfl ?_
              refine tw_iconst X dL_act_341 ?_
              refine tw_iconst X dL_act_342 ?_
              refine tw_iload_n X dL_act_343 10 rfl rfl ?_
              refine tw_iconst X dL_act_344 ?_
              refine tw_ishr X dL_act_345 (fun z345 hz345 => ?_)
              refine tw_bipush X dL_act_346 (by decide) ?_
              refine tw_callS X (As := [.int (enc (z345)), .int (enc (20))]) (st := [.int (enc (1)), .int (enc (4)), .ref (rr (z217).toNat)]) sw_L_22 (m_L_below (z345) (20) (by omega)) ([]) (wD cy q N sN oN U sU oU A ++ wS G cy qs rr tt N g) rfl rfl rfl ⟨rfl, rfl, Nat.le_of_ble_eq_true rfl, Nat.le_of_ble_eq_true rfl⟩ ⟨(show 0 + 0 ≤ 1200 by omega), (show 0 + 0 ≤ 12000 by omega)⟩ (Nat.le_of_ble_eq_true rfl) dL_act_348 (fun v w1 hp => ?_)
              obtain ⟨⟨z348, h348a, h348b, rfl⟩, rfl⟩ := hp
              refine Teq (ws' := wD cy q N sN oN U sU oU A ++ wS G cy qs rr tt N g) (lv' := [(10, .ref (rr (z217).toNat)), (9, .int (enc (z217))), (8, .int (enc (z96))), (7, .int (enc (z76))), (6, .int (enc (z25))), (5, .int (enc (N 17 0))), (4, .int (enc (N 16 0))), (3, .int (enc (N 19 0))), (0, .ref (q 0)), (1, .ref (qs 0)), (2, .int (enc (x)))]) (st' := [.int (enc (z348)), .int (enc (1)), .int (enc (4)), .ref (rr (z217).toNat)]) rfl rfl rfl ?_
              refine tw_iadd (z := 1 + z348) X dL_act_351 rfl ?_
              refine sr_stR X (g := g) (M := N) (r := z217) (v := 1 + z348) (ws' := wD cy q N sN oN U sU oU A ++ wS G cy qs rr tt (up N 6 (z217) (1 + z348)) g) (wD cy q N sN oN U sU oU A) rfl hri (by decide) rfl (by decide) rfl dL_act_352 ?_
              refine tw_aload_n X dL_act_353 8 rfl rfl ?_
              refine tw_iload X dL_act_354 1 rfl ?_
              refine tw_aload X dL_act_356 0 rfl ?_
              refine tw_iconst X dL_act_358 ?_
              refine sr_ldR X (g := g) (M := (up N 6 (z217) (1 + z348))) (r := z217) (v := 1 + z348) (wD cy q N sN oN U sU oU A) rfl hri (by decide) (up_same N 6 (z217) (1 + z348)) dL_act_359 ?_
              refine tw_callV X (As := [.int (enc (z217)), .int (enc (1 + z348))]) (st := []) vw_L_49 (m_X4_mend (q := q) N sN oN U sU oU A (z217) (by omega) (1 + z348) (by omega) (by omega) B hF (by omega) hV) ([]) (wS G cy qs rr tt (up N 6 (z217) (1 + z348)) g) rfl rfl (q0 := 0) rfl rfl rfl ⟨rfl, rfl, Nat.le_of_ble_eq_true rfl, Nat.le_of_ble_eq_true rfl⟩ ⟨Nat.le_of_ble_eq_true rfl, Nat.le_of_ble_eq_true rfl⟩ (Nat.le_of_ble_eq_true rfl) dL_act_360 (fun v w1 hp => ?_)
              obtain ⟨rfl, s1, o1, U1, sU1, oU1, A1, hV1, rfl⟩ := hp
              refine Teq (ws' := wD cy q (up N 6 (z217) (1 + z348)) s1 o1 U1 sU1 oU1 A1 ++ wS G cy qs rr tt (up N 6 (z217) (1 + z348)) g) (lv' := [(10, .ref (rr (z217).toNat)), (9, .int (enc (z217))), (8, .int (enc (z96))), (7, .int (enc (z76))), (6, .int (enc (z25))), (5, .int (enc (N 17 0))), (4, .int (enc (N 16 0))), (3, .int (enc (N 19 0))), (0, .ref (q 0)), (1, .ref (qs 0)), (2, .int (enc (x)))]) (st' := [.int (enc (N 4 z217))]) rfl rfl rfl ?_
              have b7 := hB 4 z217
              refine tw_aload X dL_act_363 0 rfl ?_
              refine tw_iconst X dL_act_365 ?_
              refine sr_ldR X (g := g) (M := (up N 6 (z217) (1 + z348))) (r := z217) (v := N 4 z217) (wD cy q (up N 6 (z217) (1 + z348)) s1 o1 U1 sU1 oU1 A1) rfl hri (by decide) rfl dL_act_366 ?_
              have b8 := hB 4 z217
              refine tw_icmp_ne (tgt := 374) X (In_of (by omega) (by omega)) (In_of (by omega) (by omega)) dL_act_367 (by decide) (fun c367 => ?_) (fun c367 => ?_)
              · skip
                exact absurd rfl c367
              · skip
                refine tw_iconst X dL_act_370 ?_
                refine tw_goto (tgt := 375) X dL_act_371 (by decide) ?_
                refine Twiden (k' := 1200) (n' := 12000) (by omega) (by omega) ?_
                exact ret _ _ _ _ dL_act_375 ⟨rfl, (up N 6 (z217) (1 + z348)), g, qs, rr, tt, s1, o1, U1, sU1, oU1, A1, rfl, INV.mono (hI.kM (by omega) (by omega)) (by omega), hV1, Int.le_refl _, rfl⟩
            · skip
              refine tw_iconst X dL_act_337 ?_
              refine Twiden (k' := 1200) (n' := 12000) (by omega) (by omega) ?_
              exact ret _ _ _ _ dL_act_338 ⟨rfl, N, g, qs, rr, tt, sN, oN, U, sU, oU, A, rfl, INV.mono hI (by omega), hV, Int.le_refl _, rfl⟩
          by_cases e9 : z25 = 9
          · refine tw_tabIn (off := 143) (tgt := 376) X (In_of (by omega) (by omega)) (by omega) (by omega) dL_act_233 (by rw [e9]; rfl) (by decide) ?_
            refine tw_aload X dL_act_376 0 rfl ?_
            refine tw_bipush X dL_act_378 (by decide) ?_
            refine sr_ldR X (g := g) (M := N) (r := z217) (v := N 5 z217) (wD cy q N sN oN U sU oU A) rfl hri (by decide) rfl dL_act_380 ?_
            have b9 := hB 5 z217
            refine tw_istore (lv' := [(12, .int (enc (N 5 z217))), (10, .ref (rr (z217).toNat)), (9, .int (enc (z217))), (8, .int (enc (z96))), (7, .int (enc (z76))), (6, .int (enc (z25))), (5, .int (enc (N 17 0))), (4, .int (enc (N 16 0))), (3, .int (enc (N 19 0))), (0, .ref (q 0)), (1, .ref (qs 0)), (2, .int (enc (x)))]) X dL_act_381 (by decide) rfl ?_
            refine tw_aload X dL_act_383 1 rfl ?_
            refine tw_iconst X dL_act_385 ?_
            refine sr_ldR X (g := g) (M := N) (r := z217) (v := N 6 z217) (wD cy q N sN oN U sU oU A) rfl hri (by decide) rfl dL_act_386 ?_
            have b10 := hB 6 z217
            refine tw_if_gt (tgt := 399) X (In_of (by omega) (by omega)) dL_act_387 (by decide) (fun c387 => ?_) (fun c387 => ?_)
            · skip
              refine tw_iconst X dL_act_399 ?_
              refine Twiden (k' := 1200) (n' := 12000) (by omega) (by omega) ?_
              exact ret _ _ _ _ dL_act_400 ⟨rfl, N, g, qs, rr, tt, sN, oN, U, sU, oU, A, rfl, INV.mono hI (by omega), hV, Int.le_refl _, rfl⟩
            · skip
              refine tw_aload_n X dL_act_390 10 rfl rfl ?_
              refine tw_iload X dL_act_391 2 rfl ?_
              refine tw_callV X (As := [.int (enc (z217))]) (st := []) vw_L_52 (m_X5_on (q := qs) (rr := rr) (tt := tt) N g B hF (by omega) (z217) (by omega)) (wD cy q N sN oN U sU oU A) ([]) (sY _ _) rfl (q0 := 0) rfl rfl rfl ⟨rfl, rfl, Nat.le_of_ble_eq_true rfl, Nat.le_of_ble_eq_true rfl⟩ ⟨Nat.le_of_ble_eq_true rfl, Nat.le_of_ble_eq_true rfl⟩ (Nat.le_of_ble_eq_true rfl) dL_act_393 (fun v w1 hp => ?_)
              obtain ⟨rfl, rfl⟩ := hp
              refine Teq (ws' := wD cy q N sN oN U sU oU A ++ wS G cy qs rr tt N g) (lv' := [(12, .int (enc (N 5 z217))), (10, .ref (rr (z217).toNat)), (9, .int (enc (z217))), (8, .int (enc (z96))), (7, .int (enc (z76))), (6, .int (enc (z25))), (5, .int (enc (N 17 0))), (4, .int (enc (N 16 0))), (3, .int (enc (N 19 0))), (0, .ref (q 0)), (1, .ref (qs 0)), (2, .int (enc (x)))]) (st' := [.int (enc (onR N z217 (N 17 0).toNat))]) (sY _ _).symm rfl rfl ?_
              have hon := onR_rng N z217 (N 17 0).toNat
              refine tw_if_le (tgt := 401) X (In_of (by omega) (by omega)) dL_act_396 (by decide) (fun c396 => ?_) (fun c396 => ?_)
              · skip
                refine tw_aload X dL_act_401 1 rfl ?_
                refine tw_bipush X dL_act_403 (by decide) ?_
                refine tw_iconst X dL_act_405 ?_
                refine sr_stR X (g := g) (M := N) (r := z217) (v := 0) (ws' := wD cy q N sN oN U sU oU A ++ wS G cy qs rr tt (up N 5 (z217) (0)) g) (wD cy q N sN oN U sU oU A) rfl hri (by decide) rfl (by decide) rfl dL_act_406 ?_
                refine tw_aload_n X dL_act_407 9 rfl rfl ?_
                refine tw_iload X dL_act_408 2 rfl ?_
                refine tw_callV X (As := [.int (enc (z217))]) (st := []) vw_L_56 (m_X4_cutKnots (q := q) N sN oN U sU oU A (z217) (by omega) (by omega) (by omega) B hF (by omega) hV) ([]) (wS G cy qs rr tt (up N 5 (z217) (0)) g) rfl rfl (q0 := 0) rfl rfl rfl ⟨rfl, rfl, Nat.le_of_ble_eq_true rfl, Nat.le_of_ble_eq_true rfl⟩ ⟨Nat.le_of_ble_eq_true rfl, Nat.le_of_ble_eq_true rfl⟩ (Nat.le_of_ble_eq_true rfl) dL_act_410 (fun v w1 hp => ?_)
                obtain ⟨rfl, s1, o1, U1, sU1, oU1, A1, hV1, rfl⟩ := hp
                refine Teq (ws' := wD cy q (up N 5 (z217) (0)) s1 o1 U1 sU1 oU1 A1 ++ wS G cy qs rr tt (up N 5 (z217) (0)) g) (lv' := [(12, .int (enc (N 5 z217))), (10, .ref (rr (z217).toNat)), (9, .int (enc (z217))), (8, .int (enc (z96))), (7, .int (enc (z76))), (6, .int (enc (z25))), (5, .int (enc (N 17 0))), (4, .int (enc (N 16 0))), (3, .int (enc (N 19 0))), (0, .ref (q 0)), (1, .ref (qs 0)), (2, .int (enc (x)))]) (st' := [.int (enc (N 5 z217))]) rfl rfl rfl ?_
                have b11 := hB 5 z217
                refine tw_iload X dL_act_413 0 rfl ?_
                refine tw_icmp_ne (tgt := 422) X (In_of (by omega) (by omega)) (In_of (by omega) (by omega)) dL_act_415 (by decide) (fun c415 => ?_) (fun c415 => ?_)
                · skip
                  exact absurd rfl c415
                · skip
                  refine tw_iconst X dL_act_418 ?_
                  refine tw_goto (tgt := 423) X dL_act_419 (by decide) ?_
                  refine Twiden (k' := 1200) (n' := 12000) (by omega) (by omega) ?_
                  exact ret _ _ _ _ dL_act_423 ⟨rfl, (up N 5 (z217) (0)), g, qs, rr, tt, s1, o1, U1, sU1, oU1, A1, rfl, INV.mono (hI.kX (by omega)) (by omega), hV1, Int.le_refl _, rfl⟩
              · skip
                refine tw_iconst X dL_act_399 ?_
                refine Twiden (k' := 1200) (n' := 12000) (by omega) (by omega) ?_
                exact ret _ _ _ _ dL_act_400 ⟨rfl, N, g, qs, rr, tt, sN, oN, U, sU, oU, A, rfl, INV.mono hI (by omega), hV, Int.le_refl _, rfl⟩
          refine tw_tabOut (tgt := 424) X (In_of (by omega) (by omega)) (Or.inr (by omega)) dL_act_233 (by decide) ?_
          refine tw_iconst X dL_act_424 ?_
          refine tw_iload_n X dL_act_425 10 rfl rfl ?_
          refine tw_iconst X dL_act_426 ?_
          refine tw_ishr X dL_act_427 (fun z427 hz427 => ?_)
          refine tw_iload_n X dL_act_428 10 rfl rfl ?_
          refine tw_bipush X dL_act_429 (by decide) ?_
          refine tw_callS X (As := [.int (enc (x)), .int (enc (8))]) (st := [.int (enc (z427)), .int (enc (1))]) sw_L_22 (m_L_below (x) (8) (by omega)) ([]) (wD cy q N sN oN U sU oU A ++ wS G cy qs rr tt N g) rfl rfl rfl ⟨rfl, rfl, Nat.le_of_ble_eq_true rfl, Nat.le_of_ble_eq_true rfl⟩ ⟨(show 0 + 0 ≤ 1200 by omega), (show 0 + 0 ≤ 12000 by omega)⟩ (Nat.le_of_ble_eq_true rfl) dL_act_431 (fun v w1 hp => ?_)
          obtain ⟨⟨z431, h431a, h431b, rfl⟩, rfl⟩ := hp
          refine Teq (ws' := wD cy q N sN oN U sU oU A ++ wS G cy qs rr tt N g) (lv' := [(10, .ref (rr (z217).toNat)), (9, .int (enc (z217))), (8, .int (enc (z96))), (7, .int (enc (z76))), (6, .int (enc (z25))), (5, .int (enc (N 17 0))), (4, .int (enc (N 16 0))), (3, .int (enc (N 19 0))), (0, .ref (q 0)), (1, .ref (qs 0)), (2, .int (enc (x)))]) (st' := [.int (enc (z431)), .int (enc (z427)), .int (enc (1))]) rfl rfl rfl ?_
          refine tw_if_ne (tgt := 442) X (In_of (by omega) (by omega)) dL_act_434 (by decide) (fun c434 => ?_) (fun c434 => ?_)
          · skip
            refine tw_iconst X dL_act_442 ?_
            refine tw_callS X (As := [.int (enc (z427)), .int (enc (3))]) (st := [.int (enc (1))]) sw_L_22 (m_L_below (z427) (3) (by omega)) ([]) (wD cy q N sN oN U sU oU A ++ wS G cy qs rr tt N g) rfl rfl rfl ⟨rfl, rfl, Nat.le_of_ble_eq_true rfl, Nat.le_of_ble_eq_true rfl⟩ ⟨(show 0 + 0 ≤ 1200 by omega), (show 0 + 0 ≤ 12000 by omega)⟩ (Nat.le_of_ble_eq_true rfl) dL_act_443 (fun v w1 hp => ?_)
            obtain ⟨⟨z443, h443a, h443b, rfl⟩, rfl⟩ := hp
            refine Teq (ws' := wD cy q N sN oN U sU oU A ++ wS G cy qs rr tt N g) (lv' := [(10, .ref (rr (z217).toNat)), (9, .int (enc (z217))), (8, .int (enc (z96))), (7, .int (enc (z76))), (6, .int (enc (z25))), (5, .int (enc (N 17 0))), (4, .int (enc (N 16 0))), (3, .int (enc (N 19 0))), (0, .ref (q 0)), (1, .ref (qs 0)), (2, .int (enc (x)))]) (st' := [.int (enc (z443)), .int (enc (1))]) rfl rfl rfl ?_
            refine tw_iadd (z := 1 + z443) X dL_act_446 rfl ?_
            refine tw_istore (lv' := [(13, .int (enc (1 + z443))), (10, .ref (rr (z217).toNat)), (9, .int (enc (z217))), (8, .int (enc (z96))), (7, .int (enc (z76))), (6, .int (enc (z25))), (5, .int (enc (N 17 0))), (4, .int (enc (N 16 0))), (3, .int (enc (N 19 0))), (0, .ref (q 0)), (1, .ref (qs 0)), (2, .int (enc (x)))]) X dL_act_447 (by decide) rfl ?_
            refine tw_aload_n X dL_act_449 9 rfl rfl ?_
            refine tw_iload X dL_act_450 0 rfl ?_
            refine tw_callV X (As := [.int (enc (1 + z443))]) (st := []) vw_L_59 (m_X4_pass (q := q) N sN oN U sU oU A (1 + z443) (by omega) B hF (by omega) hV) ([]) (wS G cy qs rr tt N g) rfl rfl (q0 := 0) rfl rfl rfl ⟨rfl, rfl, Nat.le_of_ble_eq_true rfl, Nat.le_of_ble_eq_true rfl⟩ ⟨Nat.le_of_ble_eq_true rfl, Nat.le_of_ble_eq_true rfl⟩ (Nat.le_of_ble_eq_true rfl) dL_act_452 (fun v w1 hp => ?_)
            obtain ⟨rfl, s1, o1, U1, sU1, oU1, A1, hV1, rfl⟩ := hp
            refine Teq (ws' := wD cy q (hoursM N (1 + z443).toNat) s1 o1 U1 sU1 oU1 A1 ++ wS G cy qs rr tt N g) (lv' := [(13, .int (enc (1 + z443))), (10, .ref (rr (z217).toNat)), (9, .int (enc (z217))), (8, .int (enc (z96))), (7, .int (enc (z76))), (6, .int (enc (z25))), (5, .int (enc (N 17 0))), (4, .int (enc (N 16 0))), (3, .int (enc (N 19 0))), (0, .ref (q 0)), (1, .ref (qs 0)), (2, .int (enc (x)))]) (st' := [.int (enc (hoursM N (1 + z443).toNat 18 0 - N 18 0))]) rfl rfl rfl ?_
            have hbp := (hF.hours (1 + z443).toNat).bd (by omega) 18 0
            have hb18 := hB 18 0
            refine tw_aload_n X dL_act_455 10 rfl rfl ?_
            refine tw_iload X dL_act_456 0 rfl ?_
            refine tw_callV X (As := [.int (enc (1 + z443))]) (st := [.int (enc (hoursM N (1 + z443).toNat 18 0 - N 18 0))]) vw_L_62 (m_X5_behind (q := qs) (rr := rr) (tt := tt) N g B hF (by omega) (1 + z443) (by omega) hI.2.2.2) (wD cy q (hoursM N (1 + z443).toNat) s1 o1 U1 sU1 oU1 A1) ([]) (sY _ _) rfl (q0 := 0) rfl rfl rfl ⟨rfl, rfl, Nat.le_of_ble_eq_true rfl, Nat.le_of_ble_eq_true rfl⟩ ⟨(show 0 + 1200 ≤ 1200 by omega), (show 0 + 12000 ≤ 12000 by omega)⟩ (Nat.le_of_ble_eq_true rfl) dL_act_458 (fun v w1 hp => ?_)
            obtain ⟨rfl, g3, hGg3, rfl⟩ := hp
            refine Teq (ws' := wD cy q (hoursM N (1 + z443).toNat) s1 o1 U1 sU1 oU1 A1 ++ wS G cy qs rr tt (hoursM N (1 + z443).toNat) g3) (lv' := [(13, .int (enc (1 + z443))), (10, .ref (rr (z217).toNat)), (9, .int (enc (z217))), (8, .int (enc (z96))), (7, .int (enc (z76))), (6, .int (enc (z25))), (5, .int (enc (N 17 0))), (4, .int (enc (N 16 0))), (3, .int (enc (N 19 0))), (0, .ref (q 0)), (1, .ref (qs 0)), (2, .int (enc (x)))]) (st' := [.int (enc (cntIn (hoursM N (1 + z443).toNat) (N 17 0).toNat - cntIn N (N 17 0).toNat)), .int (enc (hoursM N (1 + z443).toNat 18 0 - N 18 0))]) (sY _ _).symm rfl rfl ?_
            have hc1 := cntIn_rng N (N 17 0).toNat
            have hc2 := cntIn_rng (hoursM N (1 + z443).toNat) (N 17 0).toNat
            refine tw_icmp_ne (tgt := 468) X (In_of (by omega) (by omega)) (In_of (by omega) (by omega)) dL_act_461 (by decide) (fun c461 => ?_) (fun c461 => ?_)
            · skip
              exact absurd (by rw [cntIn_full (hF.hours (1 + z443).toNat), cntIn_full hF, hours_17]) c461
            · skip
              refine tw_iconst X dL_act_464 ?_
              refine tw_goto (tgt := 469) X dL_act_465 (by decide) ?_
              refine Twiden (k' := 1200) (n' := 12000) (by omega) (by omega) ?_
              exact ret _ _ _ _ dL_act_469 ⟨rfl, (hoursM N (1 + z443).toNat), g3, qs, rr, tt, s1, o1, U1, sU1, oU1, A1, rfl, INV.mono (hI.hours _ hGg3) (by omega), hV1, (by rw [hours_19]; exact Int.le_refl _), rfl⟩
          · skip
            refine tw_bipush X dL_act_437 (by decide) ?_
            refine tw_goto (tgt := 443) X dL_act_439 (by decide) ?_
            refine tw_callS X (As := [.int (enc (z427)), .int (enc (50))]) (st := [.int (enc (1))]) sw_L_22 (m_L_below (z427) (50) (by omega)) ([]) (wD cy q N sN oN U sU oU A ++ wS G cy qs rr tt N g) rfl rfl rfl ⟨rfl, rfl, Nat.le_of_ble_eq_true rfl, Nat.le_of_ble_eq_true rfl⟩ ⟨(show 0 + 0 ≤ 1200 by omega), (show 0 + 0 ≤ 12000 by omega)⟩ (Nat.le_of_ble_eq_true rfl) dL_act_443 (fun v w1 hp => ?_)
            obtain ⟨⟨z443, h443a, h443b, rfl⟩, rfl⟩ := hp
            refine Teq (ws' := wD cy q N sN oN U sU oU A ++ wS G cy qs rr tt N g) (lv' := [(10, .ref (rr (z217).toNat)), (9, .int (enc (z217))), (8, .int (enc (z96))), (7, .int (enc (z76))), (6, .int (enc (z25))), (5, .int (enc (N 17 0))), (4, .int (enc (N 16 0))), (3, .int (enc (N 19 0))), (0, .ref (q 0)), (1, .ref (qs 0)), (2, .int (enc (x)))]) (st' := [.int (enc (z443)), .int (enc (1))]) rfl rfl rfl ?_
            refine tw_iadd (z := 1 + z443) X dL_act_446 rfl ?_
            refine tw_istore (lv' := [(13, .int (enc (1 + z443))), (10, .ref (rr (z217).toNat)), (9, .int (enc (z217))), (8, .int (enc (z96))), (7, .int (enc (z76))), (6, .int (enc (z25))), (5, .int (enc (N 17 0))), (4, .int (enc (N 16 0))), (3, .int (enc (N 19 0))), (0, .ref (q 0)), (1, .ref (qs 0)), (2, .int (enc (x)))]) X dL_act_447 (by decide) rfl ?_
            refine tw_aload_n X dL_act_449 9 rfl rfl ?_
            refine tw_iload X dL_act_450 0 rfl ?_
            refine tw_callV X (As := [.int (enc (1 + z443))]) (st := []) vw_L_59 (m_X4_pass (q := q) N sN oN U sU oU A (1 + z443) (by omega) B hF (by omega) hV) ([]) (wS G cy qs rr tt N g) rfl rfl (q0 := 0) rfl rfl rfl ⟨rfl, rfl, Nat.le_of_ble_eq_true rfl, Nat.le_of_ble_eq_true rfl⟩ ⟨Nat.le_of_ble_eq_true rfl, Nat.le_of_ble_eq_true rfl⟩ (Nat.le_of_ble_eq_true rfl) dL_act_452 (fun v w1 hp => ?_)
            obtain ⟨rfl, s1, o1, U1, sU1, oU1, A1, hV1, rfl⟩ := hp
            refine Teq (ws' := wD cy q (hoursM N (1 + z443).toNat) s1 o1 U1 sU1 oU1 A1 ++ wS G cy qs rr tt N g) (lv' := [(13, .int (enc (1 + z443))), (10, .ref (rr (z217).toNat)), (9, .int (enc (z217))), (8, .int (enc (z96))), (7, .int (enc (z76))), (6, .int (enc (z25))), (5, .int (enc (N 17 0))), (4, .int (enc (N 16 0))), (3, .int (enc (N 19 0))), (0, .ref (q 0)), (1, .ref (qs 0)), (2, .int (enc (x)))]) (st' := [.int (enc (hoursM N (1 + z443).toNat 18 0 - N 18 0))]) rfl rfl rfl ?_
            have hbp := (hF.hours (1 + z443).toNat).bd (by omega) 18 0
            have hb18 := hB 18 0
            refine tw_aload_n X dL_act_455 10 rfl rfl ?_
            refine tw_iload X dL_act_456 0 rfl ?_
            refine tw_callV X (As := [.int (enc (1 + z443))]) (st := [.int (enc (hoursM N (1 + z443).toNat 18 0 - N 18 0))]) vw_L_62 (m_X5_behind (q := qs) (rr := rr) (tt := tt) N g B hF (by omega) (1 + z443) (by omega) hI.2.2.2) (wD cy q (hoursM N (1 + z443).toNat) s1 o1 U1 sU1 oU1 A1) ([]) (sY _ _) rfl (q0 := 0) rfl rfl rfl ⟨rfl, rfl, Nat.le_of_ble_eq_true rfl, Nat.le_of_ble_eq_true rfl⟩ ⟨(show 0 + 1200 ≤ 1200 by omega), (show 0 + 12000 ≤ 12000 by omega)⟩ (Nat.le_of_ble_eq_true rfl) dL_act_458 (fun v w1 hp => ?_)
            obtain ⟨rfl, g3, hGg3, rfl⟩ := hp
            refine Teq (ws' := wD cy q (hoursM N (1 + z443).toNat) s1 o1 U1 sU1 oU1 A1 ++ wS G cy qs rr tt (hoursM N (1 + z443).toNat) g3) (lv' := [(13, .int (enc (1 + z443))), (10, .ref (rr (z217).toNat)), (9, .int (enc (z217))), (8, .int (enc (z96))), (7, .int (enc (z76))), (6, .int (enc (z25))), (5, .int (enc (N 17 0))), (4, .int (enc (N 16 0))), (3, .int (enc (N 19 0))), (0, .ref (q 0)), (1, .ref (qs 0)), (2, .int (enc (x)))]) (st' := [.int (enc (cntIn (hoursM N (1 + z443).toNat) (N 17 0).toNat - cntIn N (N 17 0).toNat)), .int (enc (hoursM N (1 + z443).toNat 18 0 - N 18 0))]) (sY _ _).symm rfl rfl ?_
            have hc1 := cntIn_rng N (N 17 0).toNat
            have hc2 := cntIn_rng (hoursM N (1 + z443).toNat) (N 17 0).toNat
            refine tw_icmp_ne (tgt := 468) X (In_of (by omega) (by omega)) (In_of (by omega) (by omega)) dL_act_461 (by decide) (fun c461 => ?_) (fun c461 => ?_)
            · skip
              exact absurd (by rw [cntIn_full (hF.hours (1 + z443).toNat), cntIn_full hF, hours_17]) c461
            · skip
              refine tw_iconst X dL_act_464 ?_
              refine tw_goto (tgt := 469) X dL_act_465 (by decide) ?_
              refine Twiden (k' := 1200) (n' := 12000) (by omega) (by omega) ?_
              exact ret _ _ _ _ dL_act_469 ⟨rfl, (hoursM N (1 + z443).toNat), g3, qs, rr, tt, s1, o1, U1, sU1, oU1, A1, rfl, INV.mono (hI.hours _ hGg3) (by omega), hV1, (by rw [hours_19]; exact Int.le_refl _), rfl⟩
        · skip
          refine tw_iload X dL_act_110 4 rfl ?_
          refine tw_bipush X dL_act_112 (by decide) ?_
          refine tw_icmp_ne (tgt := 119) X (In_of (by omega) (by omega)) (In_of (by omega) (by omega)) dL_act_114 (by decide) (fun c114 => ?_) (fun c114 => ?_)
          · skip
            refine tw_bipush X dL_act_119 (by decide) ?_
            refine tw_newa X (N := 7) rfl (by omega) (show 0 + 1 ≤ 1200 by omega) (show 0 + 7 ≤ 12000 by omega) dL_act_121 (fun qa121 => ?_)
            refine Tnew (wD cy q N sN oN U sU oU A) (wS G cy qs rr tt N g) ([(qa121, arI cy 7 (fun _ => 0))]) (ws' := wD cy q N sN oN U sU oU A ++ [(qa121, arI cy 7 (fun _ => 0))] ++ wS G cy qs rr tt N g) rfl rfl ?_
            refine Twiden (k' := 0 + 1) (n' := 0 + 7) (by omega) (by omega) ?_
            refine tw_dup X dL_act_123 rfl ?_
            refine tw_iconst X dL_act_124 ?_
            refine tw_iload X dL_act_125 1 rfl ?_
            refine tw_iast X (N := 7) (f := (fun _ => 0)) (ws' := wD cy q N sN oN U sU oU A ++ [(qa121, arI cy 7 (ups (fun _ => 0) (0) (z76)))] ++ wS G cy qs rr tt N g) 45 rfl (by decide) (by omega) dL_act_127 rfl ?_
            refine tw_dup X dL_act_128 rfl ?_
            refine tw_iconst X dL_act_129 ?_
            refine tw_iload X dL_act_130 0 rfl ?_
            refine tw_iast X (N := 7) (f := (ups (fun _ => 0) (0) (z76))) (ws' := wD cy q N sN oN U sU oU A ++ [(qa121, arI cy 7 (ups (ups (fun _ => 0) (0) (z76)) (1) (z96)))] ++ wS G cy qs rr tt N g) 45 rfl (by decide) (by omega) dL_act_132 rfl ?_
            refine tw_dup X dL_act_133 rfl ?_
            refine tw_iconst X dL_act_134 ?_
            refine tw_iconst X dL_act_135 ?_
            refine tw_iload_n X dL_act_136 8 rfl rfl ?_
            refine tw_iconst X dL_act_137 ?_
            refine tw_ishr X dL_act_138 (fun z138 hz138 => ?_)
            refine tw_bipush X dL_act_139 (by decide) ?_
            refine tw_callS X (As := [.int (enc (z138)), .int (enc (9))]) (st := [.int (enc (1)), .int (enc (2)), .ref (qa121), .ref (qa121)]) sw_L_22 (m_L_below (z138) (9) (by omega)) ([]) (wD cy q N sN oN U sU oU A ++ [(qa121, arI cy 7 (ups (ups (fun _ => 0) (0) (z76)) (1) (z96)))] ++ wS G cy qs rr tt N g) rfl rfl rfl ⟨rfl, rfl, Nat.le_of_ble_eq_true rfl, Nat.le_of_ble_eq_true rfl⟩ ⟨(show 0 + 1 + 0 ≤ 1200 by omega), (show 0 + 7 + 0 ≤ 12000 by omega)⟩ (Nat.le_of_ble_eq_true rfl) dL_act_141 (fun v w1 hp => ?_)
            obtain ⟨⟨z141, h141a, h141b, rfl⟩, rfl⟩ := hp
            refine Teq (ws' := wD cy q N sN oN U sU oU A ++ [(qa121, arI cy 7 (ups (ups (fun _ => 0) (0) (z76)) (1) (z96)))] ++ wS G cy qs rr tt N g) (lv' := [(8, .int (enc (z96))), (7, .int (enc (z76))), (6, .int (enc (z25))), (5, .int (enc (N 17 0))), (4, .int (enc (N 16 0))), (3, .int (enc (N 19 0))), (0, .ref (q 0)), (1, .ref (qs 0)), (2, .int (enc (x)))]) (st' := [.int (enc (z141)), .int (enc (1)), .int (enc (2)), .ref (qa121), .ref (qa121)]) rfl rfl rfl ?_
            refine tw_iadd (z := 1 + z141) X dL_act_144 rfl ?_
            refine tw_iast X (N := 7) (f := (ups (ups (fun _ => 0) (0) (z76)) (1) (z96))) (ws' := wD cy q N sN oN U sU oU A ++ [(qa121, arI cy 7 (ups (ups (ups (fun _ => 0) (0) (z76)) (1) (z96)) (2) (1 + z141)))] ++ wS G cy qs rr tt N g) 45 rfl (by decide) (by omega) dL_act_145 rfl ?_
            refine tw_dup X dL_act_146 rfl ?_
            refine tw_iconst X dL_act_147 ?_
            refine tw_iload_n X dL_act_148 8 rfl rfl ?_
            refine tw_bipush X dL_act_149 (by decide) ?_
            refine tw_ishr X dL_act_151 (fun z151 hz151 => ?_)
            refine tw_iconst X dL_act_152 ?_
            refine tw_callS X (As := [.int (enc (z151)), .int (enc (4))]) (st := [.int (enc (3)), .ref (qa121), .ref (qa121)]) sw_L_22 (m_L_below (z151) (4) (by omega)) ([]) (wD cy q N sN oN U sU oU A ++ [(qa121, arI cy 7 (ups (ups (ups (fun _ => 0) (0) (z76)) (1) (z96)) (2) (1 + z141)))] ++ wS G cy qs rr tt N g) rfl rfl rfl ⟨rfl, rfl, Nat.le_of_ble_eq_true rfl, Nat.le_of_ble_eq_true rfl⟩ ⟨(show 0 + 1 + 0 ≤ 1200 by omega), (show 0 + 7 + 0 ≤ 12000 by omega)⟩ (Nat.le_of_ble_eq_true rfl) dL_act_153 (fun v w1 hp => ?_)
            obtain ⟨⟨z153, h153a, h153b, rfl⟩, rfl⟩ := hp
            refine Teq (ws' := wD cy q N sN oN U sU oU A ++ [(qa121, arI cy 7 (ups (ups (ups (fun _ => 0) (0) (z76)) (1) (z96)) (2) (1 + z141)))] ++ wS G cy qs rr tt N g) (lv' := [(8, .int (enc (z96))), (7, .int (enc (z76))), (6, .int (enc (z25))), (5, .int (enc (N 17 0))), (4, .int (enc (N 16 0))), (3, .int (enc (N 19 0))), (0, .ref (q 0)), (1, .ref (qs 0)), (2, .int (enc (x)))]) (st' := [.int (enc (z153)), .int (enc (3)), .ref (qa121), .ref (qa121)]) rfl rfl rfl ?_
            refine tw_iast X (N := 7) (f := (ups (ups (ups (fun _ => 0) (0) (z76)) (1) (z96)) (2) (1 + z141))) (ws' := wD cy q N sN oN U sU oU A ++ [(qa121, arI cy 7 (ups (ups (ups (ups (fun _ => 0) (0) (z76)) (1) (z96)) (2) (1 + z141)) (3) (z153)))] ++ wS G cy qs rr tt N g) 45 rfl (by decide) (by omega) dL_act_156 rfl ?_
            refine tw_dup X dL_act_157 rfl ?_
            refine tw_iconst X dL_act_158 ?_
            refine tw_iconst X dL_act_159 ?_
            refine tw_iast X (N := 7) (f := (ups (ups (ups (ups (fun _ => 0) (0) (z76)) (1) (z96)) (2) (1 + z141)) (3) (z153))) (ws' := wD cy q N sN oN U sU oU A ++ [(qa121, arI cy 7 (ups (ups (ups (ups (ups (fun _ => 0) (0) (z76)) (1) (z96)) (2) (1 + z141)) (3) (z153)) (4) (0)))] ++ wS G cy qs rr tt N g) 45 rfl (by decide) (by omega) dL_act_160 rfl ?_
            refine tw_dup X dL_act_161 rfl ?_
            refine tw_iconst X dL_act_162 ?_
            refine tw_iconst X dL_act_163 ?_
            refine tw_iast X (N := 7) (f := (ups (ups (ups (ups (ups (fun _ => 0) (0) (z76)) (1) (z96)) (2) (1 + z141)) (3) (z153)) (4) (0))) (ws' := wD cy q N sN oN U sU oU A ++ [(qa121, arI cy 7 (ups (ups (ups (ups (ups (ups (fun _ => 0) (0) (z76)) (1) (z96)) (2) (1 + z141)) (3) (z153)) (4) (0)) (5) (0)))] ++ wS G cy qs rr tt N g) 45 rfl (by decide) (by omega) dL_act_164 rfl ?_
            refine tw_dup X dL_act_165 rfl ?_
            refine tw_bipush X dL_act_166 (by decide) ?_
            refine tw_iconst X dL_act_168 ?_
            refine tw_iast X (N := 7) (f := (ups (ups (ups (ups (ups (ups (fun _ => 0) (0) (z76)) (1) (z96)) (2) (1 + z141)) (3) (z153)) (4) (0)) (5) (0))) (ws' := wD cy q N sN oN U sU oU A ++ [(qa121, arI cy 7 (ups (ups (ups (ups (ups (ups (ups (fun _ => 0) (0) (z76)) (1) (z96)) (2) (1 + z141)) (3) (z153)) (4) (0)) (5) (0)) (6) (0)))] ++ wS G cy qs rr tt N g) 45 rfl (by decide) (by omega) dL_act_169 rfl ?_
            refine tw_astore (lv' := [(9, .ref (qa121)), (8, .int (enc (z96))), (7, .int (enc (z76))), (6, .int (enc (z25))), (5, .int (enc (N 17 0))), (4, .int (enc (N 16 0))), (3, .int (enc (N 19 0))), (0, .ref (q 0)), (1, .ref (qs 0)), (2, .int (enc (x)))]) X dL_act_170 (by decide) rfl ?_
            refine Tws (ws' := wD cy q N sN oN U sU oU A ++ [(qa121, arI cy 7 (rowA (z76) (z96) (1 + z141) (z153)))] ++ wS G cy qs rr tt N g) rfl ?_
            refine tw_aload_n X dL_act_172 8 rfl rfl ?_
            refine tw_aload_n X dL_act_173 8 rfl rfl ?_
            refine gf_L_15 X (v := .ref (qs 1)) 46 rfl rfl dL_act_174 ?_
            refine tw_aload X dL_act_177 0 rfl ?_
            refine sr_addR X hN (wD cy q N sN oN U sU oU A) (a := qa121) (M := N) (g := g) (q := qs) (rr := rr) (tt := tt) (x := z76) (y := z96) (z := 1 + z141) (u := z153) hI.2.1 (by omega) rfl ⟨Nat.le_of_ble_eq_true rfl, Nat.le_of_ble_eq_true rfl⟩ ⟨(show 0 + 1 + 1 ≤ 1200 by omega), (show 0 + 7 + 21 ≤ 12000 by omega)⟩ (Nat.le_of_ble_eq_true rfl) dL_act_179 dL_act_182 (fun b179 => ?_)
            generalize hrr : (fun j => if j < (N 16 0).toNat then rr j else qa121) = rr179
            have hr9 : rr179 (N 16 0).toNat = qa121 := by rw [← hrr]; exact if_neg (Nat.lt_irrefl _)
            clear hrr
            subst hr9
            refine Teq (ws' := wD cy q N sN oN U sU oU A ++ wS G cy (fun i => cond (Nat.beq i 1) b179 (qs i)) rr179 tt (putR N (z76) (z96) (1 + z141) (z153)) g) (lv' := [(9, .ref (rr179 (N 16 0).toNat)), (8, .int (enc (z96))), (7, .int (enc (z76))), (6, .int (enc (z25))), (5, .int (enc (N 17 0))), (4, .int (enc (N 16 0))), (3, .int (enc (N 19 0))), (0, .ref (q 0)), (1, .ref ((fun i => cond (Nat.beq i 1) b179 (qs i)) 0)), (2, .int (enc (x)))]) (st' := []) rfl rfl rfl ?_
            refine tw_aload_n X dL_act_185 7 rfl rfl ?_
            refine tw_iload X dL_act_186 2 rfl ?_
            refine tw_iload X dL_act_188 1 rfl ?_
            refine tw_aload X dL_act_190 0 rfl ?_
            refine tw_iconst X dL_act_192 ?_
            refine sr_ldR X (g := g) (M := (putR N (z76) (z96) (1 + z141) (z153))) (r := N 16 0) (v := (putR N (z76) (z96) (1 + z141) (z153)) 2 (N 16 0)) (wD cy q N sN oN U sU oU A) rfl (putR_ix (by omega)) (by decide) rfl dL_act_193 ?_
            refine Tst (st' := [.int (enc (1 + z141)), .int (enc (z96)), .int (enc (z76)), .ref (q 0)]) (by rw [putR_2]) ?_
            refine tw_aload X dL_act_194 0 rfl ?_
            refine tw_iconst X dL_act_196 ?_
            refine sr_ldR X (g := g) (M := (putR N (z76) (z96) (1 + z141) (z153))) (r := N 16 0) (v := (putR N (z76) (z96) (1 + z141) (z153)) 3 (N 16 0)) (wD cy q N sN oN U sU oU A) rfl (putR_ix (by omega)) (by decide) rfl dL_act_197 ?_
            refine Tst (st' := [.int (enc (z153)), .int (enc (1 + z141)), .int (enc (z96)), .int (enc (z76)), .ref (q 0)]) (by rw [putR_3]) ?_
            refine tw_callV X (As := [.int (enc (z76)), .int (enc (z96)), .int (enc (1 + z141)), .int (enc (z153))]) (st := []) vw_L_38 (m_X4_addRoad (q := q) N sN oN U sU oU A (z76) (by omega) (z96) (by omega) hab (1 + z141) (z153) (by omega) (by omega) (by omega) B hF (by omega) hV) ([]) (wS G cy (fun i => cond (Nat.beq i 1) b179 (qs i)) rr179 tt (putR N (z76) (z96) (1 + z141) (z153)) g) rfl rfl (q0 := 0) rfl rfl rfl ⟨rfl, rfl, Nat.le_of_ble_eq_true rfl, Nat.le_of_ble_eq_true rfl⟩ ⟨(show 0 + 1 + 1 + 0 ≤ 1200 by omega), (show 0 + 7 + 21 + 0 ≤ 12000 by omega)⟩ (Nat.le_of_ble_eq_true rfl) dL_act_198 (fun v w1 hp => ?_)
            obtain ⟨rfl, s1, o1, U1, sU1, oU1, A1, hV1, rfl⟩ := hp
            refine Teq (ws' := wD cy q (putR N (z76) (z96) (1 + z141) (z153)) s1 o1 U1 sU1 oU1 A1 ++ wS G cy (fun i => cond (Nat.beq i 1) b179 (qs i)) rr179 tt (putR N (z76) (z96) (1 + z141) (z153)) g) (lv' := [(9, .ref (rr179 (N 16 0).toNat)), (8, .int (enc (z96))), (7, .int (enc (z76))), (6, .int (enc (z25))), (5, .int (enc (N 17 0))), (4, .int (enc (N 16 0))), (3, .int (enc (N 19 0))), (0, .ref (q 0)), (1, .ref ((fun i => cond (Nat.beq i 1) b179 (qs i)) 0)), (2, .int (enc (x)))]) (st' := [.int (enc (N 16 0))]) rfl rfl rfl ?_
            have b12 := hB 16 0
            refine tw_iload X dL_act_201 5 rfl ?_
            refine tw_icmp_ne (tgt := 210) X (In_of (by omega) (by omega)) (In_of (by omega) (by omega)) dL_act_203 (by decide) (fun c203 => ?_) (fun c203 => ?_)
            · skip
              exact absurd rfl c203
            · skip
              refine tw_iconst X dL_act_206 ?_
              refine tw_goto (tgt := 211) X dL_act_207 (by decide) ?_
              refine Twiden (k' := 1200) (n' := 12000) (by omega) (by omega) ?_
              exact ret _ _ _ _ dL_act_211 ⟨rfl, (putR N (z76) (z96) (1 + z141) (z153)), g, (fun i => cond (Nat.beq i 1) b179 (qs i)), rr179, tt, s1, o1, U1, sU1, oU1, A1, rfl, INV.mono (hI.kAR (by omega) (by omega) hab (by omega) (by omega) (by omega)) (by omega), hV1, Int.le_refl _, rfl⟩
          · skip
            refine tw_iconst X dL_act_117 ?_
            refine Twiden (k' := 1200) (n' := 12000) (by omega) (by omega) ?_
            exact ret _ _ _ _ dL_act_118 ⟨rfl, N, g, qs, rr, tt, sN, oN, U, sU, oU, A, rfl, INV.mono hI (by omega), hV, Int.le_refl _, rfl⟩
    · skip
      refine tw_iload_n X dL_act_40 3 rfl rfl ?_
      refine tw_bipush X dL_act_41 (by decide) ?_
      refine tw_icmp_ne (tgt := 48) X (In_of (by omega) (by omega)) (In_of (by omega) (by omega)) dL_act_43 (by decide) (fun c43 => ?_) (fun c43 => ?_)
      · skip
        refine tw_aload_n X dL_act_48 5 rfl rfl ?_
        refine tw_dup X dL_act_49 rfl ?_
        refine gf_L_9 X (v := .int (enc (N 19 0))) 45 rfl rfl dL_act_50 ?_
        have b13 := hB 19 0
        refine tw_iconst X dL_act_53 ?_
        refine tw_iadd (z := (N 19 0) + 1) X dL_act_54 rfl ?_
        refine pf_L_9 X (ws' := wD cy q N sN oN U sU oU A ++ ([(qs 0, .inr (5, [.int (enc (N 20 0)), .int (enc ((N 19 0) + 1)), .ref (qs 1), .ref (qs 2)])), (qs 1, gI G (N 16 0).toNat (fun j => some (rr j))), (qs 2, gI G (N 17 0).toNat (fun j => some (tt j)))] ++ (rowsR cy rr N (N 16 0).toNat ++ rowsT cy tt N g (N 17 0).toNat))) 45 rfl (Nat.le_of_ble_eq_true rfl) rfl rfl dL_act_55 rfl ?_
        refine Tws (ws' := wD cy q N sN oN U sU oU A ++ wS G cy qs rr tt (upc N 19 ((N 19 0) + 1)) g) (congrArg (fun z => wD cy q N sN oN U sU oU A ++ z) (wS_put19 _ _ _ _ _ _ _ _)) ?_
        refine tw_aload_n X dL_act_58 4 rfl rfl ?_
        refine tw_callV X (As := []) (st := []) vw_L_28 (m_X4_addCrossing (q := q) N sN oN U sU oU A B hF (by omega) hV (by omega)) ([]) (wS G cy qs rr tt (upc N 19 ((N 19 0) + 1)) g) rfl rfl (q0 := 0) rfl rfl rfl ⟨rfl, rfl, Nat.le_of_ble_eq_true rfl, Nat.le_of_ble_eq_true rfl⟩ ⟨Nat.le_of_ble_eq_true rfl, Nat.le_of_ble_eq_true rfl⟩ (Nat.le_of_ble_eq_true rfl) dL_act_59 (fun v w1 hp => ?_)
        obtain ⟨rfl, s1, o1, U1, sU1, oU1, A1, hV1, rfl⟩ := hp
        refine Teq (ws' := wD cy q (upc N 19 (N 19 0 + 1)) s1 o1 U1 sU1 oU1 A1 ++ wS G cy qs rr tt (upc N 19 ((N 19 0) + 1)) g) (lv' := [(6, .int (enc (z25))), (5, .int (enc (N 17 0))), (4, .int (enc (N 16 0))), (3, .int (enc (N 19 0))), (0, .ref (q 0)), (1, .ref (qs 0)), (2, .int (enc (x)))]) (st' := [.int (enc (N 19 0))]) rfl rfl rfl ?_
        have b14 := hB 19 0
        refine tw_iload_n X dL_act_62 3 rfl rfl ?_
        refine tw_icmp_ne (tgt := 70) X (In_of (by omega) (by omega)) (In_of (by omega) (by omega)) dL_act_63 (by decide) (fun c63 => ?_) (fun c63 => ?_)
        · skip
          exact absurd rfl c63
        · skip
          refine tw_iconst X dL_act_66 ?_
          refine tw_goto (tgt := 71) X dL_act_67 (by decide) ?_
          refine Twiden (k' := 1200) (n' := 12000) (by omega) (by omega) ?_
          exact ret _ _ _ _ dL_act_71 ⟨rfl, (upc N 19 (N 19 0 + 1)), g, qs, rr, tt, s1, o1, U1, sU1, oU1, A1, rfl, INV.mono (hI.kAC (by omega)) (by omega), hV1, (show N 19 0 ≤ N 19 0 + 1 by omega), rfl⟩
      · skip
        refine tw_iconst X dL_act_46 ?_
        refine Twiden (k' := 1200) (n' := 12000) (by omega) (by omega) ?_
        exact ret _ _ _ _ dL_act_47 ⟨rfl, N, g, qs, rr, tt, sN, oN, U, sU, oU, A, rfl, INV.mono hI (by omega), hV, Int.le_refl _, rfl⟩
