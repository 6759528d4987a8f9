/-! THE ROAD TO TAKE, a tourist's row -/
theorem nc_next {P : Nat → Prop} {i : Nat} (hb : ∀ j : Nat, j < i → ¬ P j) (h : ¬ P i) : ∀ j : Nat, j < i + 1 → ¬ P j := fun j hj => by
  by_cases e : j = i
  · rw [e]; exact h
  · exact hb j (by omega)
set_option maxRecDepth 100000 in
set_option maxHeartbeats 4000000 in
theorem m_X5_next {G : va_G} {cy : ClassId} {q rr tt : Nat → Nat} (M : MT) (g : Int → Int) (B : Int) (hF : WF M B) (hB2 : B ≤ 900000) (p gl : Int) (hp : 0 ≤ p ∧ p < M 19 0) (hg : 0 ≤ gl ∧ gl < M 19 0) : Ct G cy yX5_next cX5_next 7 (some .int) ({ frames := 2, cells := 2, slots := 20, locals := 52 } : Room) 2 20 [.ref (q 0), .int (enc (p)), .int (enc (gl))] (wS G cy q rr tt M g) (fun v w1 => v = some (.int (enc (if p = gl then -1 else toward M p gl))) ∧ w1 = wS G cy q rr tt M g) := by
  refine Ct.ofI (by decide) (Nat.le_of_ble_eq_true rfl) rfl rfl (fun _ _ _ => rfl) ?_
  intro c X ret
  have hB := hF.bd (by omega)
  obtain ⟨w0, w1, w2, w3, w4⟩ := hF.r
  have h17 := hF.2.2.2.2.2.1
  have h172 := hF.2.2.2.2.2.2.1
  have h20 := hF.2.2.2.2.2.2.2.1
  refine Tlv (lv' := [(0, .ref (q 0)), (1, .int (enc (p))), (2, .int (enc (gl)))]) rfl ?_
  refine tw_aload_n X dX5_next_0 0 rfl rfl ?_
  refine tw_iload_n X dX5_next_1 2 rfl rfl ?_
  refine tw_iconst X dX5_next_2 ?_
  refine tw_callV X (As := [.int (enc (gl)), .int (enc (0))]) (st := []) vw_X5_32 (m_X5_distances (q := q) (rr := rr) (tt := tt) M g B hF hB2 true gl 0 hg (Or.inr ⟨rfl, rfl⟩)) ([]) ([]) (sY _ _) rfl (q0 := 0) rfl rfl rfl ⟨rfl, rfl, Nat.le_of_ble_eq_true rfl, Nat.le_of_ble_eq_true rfl⟩ ⟨(show 0 + 2 ≤ 2 by omega), (show 0 + 20 ≤ 20 by omega)⟩ (Nat.le_of_ble_eq_true rfl) dX5_next_3 (fun v w1 hp => ?_)
  obtain ⟨af, far, rfl, hfar, rfl⟩ := hp
  refine Teq (ws' := [(af, arI cy ((M 19 0).toNat) far)] ++ wS G cy q rr tt M g) (lv' := [(0, .ref (q 0)), (1, .int (enc (p))), (2, .int (enc (gl)))]) (st' := [.ref (af)]) (sY2 _ _ _) rfl rfl ?_
  refine tw_astore_n (lv' := [(3, .ref (af)), (0, .ref (q 0)), (1, .int (enc (p))), (2, .int (enc (gl)))]) X dX5_next_6 rfl (by decide) rfl ?_
  refine tw_iload_n X dX5_next_7 2 rfl rfl ?_
  refine tw_iload_n X dX5_next_8 3 rfl rfl ?_
  refine tw_icmp_eq (tgt := 21) X (In_of (by omega) (by omega)) (In_of (by omega) (by omega)) dX5_next_9 (by decide) (fun c9 => ?_) (fun c9 => ?_)
  · skip
    refine tw_iconst X dX5_next_21 ?_
    refine Tgone ([]) (wS G cy q rr tt M g) ([(af, arI cy ((M 19 0).toNat) far)]) (ws' := wS G cy q rr tt M g) rfl rfl ?_
    refine Twiden (k' := 2) (n' := 20) (by omega) (by omega) ?_
    exact ret _ _ _ _ dX5_next_22 (by first | exact ⟨by rw [if_pos c9], rfl⟩ | exact ⟨by rw [if_neg c9, hnone], rfl⟩)
  · skip
    refine tw_aload_n X dX5_next_12 0 rfl rfl ?_
    refine tw_iload_n X dX5_next_13 2 rfl rfl ?_
    refine tw_iald X (N := (M 19 0).toNat) (f := far) 0 rfl (by omega) (by omega) dX5_next_14 ?_
    have hfp := hfar p hp.1 hp.2
    have hd9 := d9_rng (o := true) hF.r (a := gl) (b := p) hg
    have hsy := dst_sym (o := true) hF.r hp.1 hg.1
    refine tw_sipush X dX5_next_15 (by decide) ?_
    refine tw_icmp_ne (tgt := 23) X (In_of (by omega) (by omega)) (In_of (by omega) (by omega)) dX5_next_18 (by decide) (fun c18 => ?_) (fun c18 => ?_)
    · skip
      have hfin : dst M true p gl < 1000000 := by omega
      refine tw_iconst X dX5_next_23 ?_
      refine tw_istore (lv' := [(4, .int (enc (0))), (3, .ref (af)), (0, .ref (q 0)), (1, .int (enc (p))), (2, .int (enc (gl)))]) X dX5_next_24 (by decide) rfl ?_
      have L26 : ∀ (fu i : Nat), (i : Int) ≤ M 16 0 → M 16 0 + 1 ≤ (i : Int) + fu → (∀ j : Nat, j < i → ¬ cand M p gl (j : Int)) → T G c ({ frames := 2, cells := 2, slots := 20, locals := 52 } : Room) 7 (0 + 2) (0 + 20) ([(af, arI cy ((M 19 0).toNat) far)] ++ wS G cy q rr tt M g) 26 [(4, .int (enc ((i : Int)))), (0, .ref (q 0)), (1, .int (enc (p))), (2, .int (enc (gl))), (3, .ref (af))] [] := by
        intro fu
        induction fu with
        | zero =>
          intro i  hi0 hi1
          exact absurd hi1 (by omega)
        | succ fu ih26 =>
          intro i  hi0_26 hi1_26 hb
          refine tw_iload X dX5_next_26 0 rfl ?_
          refine tw_aload_n X dX5_next_28 1 rfl rfl ?_
          refine gf_X5_9 X (v := .ref (q 1)) 1 rfl rfl dX5_next_29 ?_
          refine sr_lenR X (g := g) ([(af, arI cy ((M 19 0).toNat) far)]) rfl (by omega) dX5_next_32 ?_
          refine tw_icmp_ge (tgt := 117) X (In_of (by omega) (by omega)) (In_of (by omega) (by omega)) dX5_next_33 (by decide) (fun c33 => ?_) (fun c33 => ?_)
          · skip
            obtain ⟨r9, h91, h92⟩ := cand_ex hF.r hp.1 c9 hfin
            exact absurd h92 (hb r9 (by omega))
          · skip
            have d6 := (hF.2.2.2.1 (i : Int)).2.1
            have gl9 := hF.r.ln (r := (i : Int)) (by omega) c33
            refine tw_aload_n X dX5_next_36 1 rfl rfl ?_
            refine gf_X5_9 X (v := .ref (q 1)) 1 rfl rfl dX5_next_37 ?_
            refine tw_iload X dX5_next_40 0 rfl ?_
            refine sr_aaR X (g := g) (M := M) (r := (i : Int)) ([(af, arI cy ((M 19 0).toNat) far)]) rfl (by omega) (by omega) dX5_next_42 ?_
            refine tw_astore (lv' := [(5, .ref (rr ((i : Int)).toNat)), (4, .int (enc ((i : Int)))), (0, .ref (q 0)), (1, .int (enc (p))), (2, .int (enc (gl))), (3, .ref (af))]) X dX5_next_43 (by decide) rfl ?_
            refine tw_aload X dX5_next_45 0 rfl ?_
            refine tw_iconst X dX5_next_47 ?_
            refine sr_ldR X (g := g) (M := M) (r := (i : Int)) (v := M 6 (i : Int)) ([(af, arI cy ((M 19 0).toNat) far)]) rfl (by omega) (by decide) rfl dX5_next_48 ?_
            have b1 := hB 6 (i : Int)
            refine tw_if_gt (tgt := 111) X (In_of (by omega) (by omega)) dX5_next_49 (by decide) (fun c49 => ?_) (fun c49 => ?_)
            · skip
              have hnc : ¬ cand M p gl (i : Int) := fun z => by have := z.1; omega
              refine tw_iinc (q := 1) (x := (i : Int)) (y := (i : Int) + 1) (lv' := [(4, .int (enc ((i : Int) + 1))), (5, .ref (rr ((i : Int)).toNat)), (0, .ref (q 0)), (1, .int (enc (p))), (2, .int (enc (gl))), (3, .ref (af))]) X dX5_next_111 rfl rfl (by decide) rfl ?_
              refine tw_goto (tgt := 26) X dX5_next_114 (by decide) ?_
              refine Tsub (lv' := [(4, .int (enc ((i : Int) + 1))), (0, .ref (q 0)), (1, .int (enc (p))), (2, .int (enc (gl))), (3, .ref (af))]) [0, 2, 3, 4, 5] rfl ?_
              refine Teq (ws' := [(af, arI cy ((M 19 0).toNat) far)] ++ wS G cy q rr tt M g) (lv' := [(4, .int (enc (((i + 1 : Nat) : Int)))), (0, .ref (q 0)), (1, .int (enc (p))), (2, .int (enc (gl))), (3, .ref (af))]) (st' := []) (rfl) (lvc (i_succ i) (lvk (lvk (lvk (lvk (rfl)))))) rfl (ih26 (i + 1) (by omega) (by omega) (nc_next (P := fun j : Nat => cand M p gl (j : Int)) hb hnc))
            · skip
              refine tw_aload X dX5_next_52 0 rfl ?_
              refine tw_iconst X dX5_next_54 ?_
              refine sr_ldR X (g := g) (M := M) (r := (i : Int)) (v := M 0 (i : Int)) ([(af, arI cy ((M 19 0).toNat) far)]) rfl (by omega) (by decide) rfl dX5_next_55 ?_
              have b2 := hB 0 (i : Int)
              refine tw_iload_n X dX5_next_56 3 rfl rfl ?_
              refine tw_icmp_eq (tgt := 71) X (In_of (by omega) (by omega)) (In_of (by omega) (by omega)) dX5_next_57 (by decide) (fun c57 => ?_) (fun c57 => ?_)
              · skip
                refine tw_aload X dX5_next_71 0 rfl ?_
                refine tw_iconst X dX5_next_73 ?_
                refine sr_ldR X (g := g) (M := M) (r := (i : Int)) (v := M 0 (i : Int)) ([(af, arI cy ((M 19 0).toNat) far)]) rfl (by omega) (by decide) rfl dX5_next_74 ?_
                have b3 := hB 0 (i : Int)
                refine tw_iload_n X dX5_next_75 3 rfl rfl ?_
                refine tw_icmp_ne (tgt := 86) X (In_of (by omega) (by omega)) (In_of (by omega) (by omega)) dX5_next_76 (by decide) (fun c76 => ?_) (fun c76 => ?_)
                · skip
                  refine tw_aload X dX5_next_86 0 rfl ?_
                  refine tw_iconst X dX5_next_88 ?_
                  refine sr_ldR X (g := g) (M := M) (r := (i : Int)) (v := M 0 (i : Int)) ([(af, arI cy ((M 19 0).toNat) far)]) rfl (by omega) (by decide) rfl dX5_next_89 ?_
                  have b4 := hB 0 (i : Int)
                  refine Tst (st' := [.int (enc (endF M (i : Int) p))]) (by unfold endF; first | (rw [if_pos c57]; done) | (rw [if_neg c57, if_pos c65]; done) | exact absurd c57 c76 | exact absurd c76 c57) ?_
                  refine tw_istore (lv' := [(6, .int (enc (endF M (i : Int) p))), (5, .ref (rr ((i : Int)).toNat)), (4, .int (enc ((i : Int)))), (0, .ref (q 0)), (1, .int (enc (p))), (2, .int (enc (gl))), (3, .ref (af))]) X dX5_next_90 (by decide) rfl ?_
                  have he0 : 0 ≤ endF M (i : Int) p := by have := w4 (i : Int) (by omega) c33; unfold endF; split <;> (first | omega | (split <;> omega))
                  have ger := endF_rng hF.r (r := (i : Int)) (by omega) c33 he0
                  have hfe := hfar (endF M (i : Int) p) he0 ger.2.2.1
                  have hd2 := d9_rng (o := true) hF.r (a := gl) (b := endF M (i : Int) p) hg
                  have hsy2 := dst_sym (o := true) hF.r he0 hg.1
                  refine tw_aload_n X dX5_next_92 6 rfl rfl ?_
                  refine tw_iload X dX5_next_93 0 rfl ?_
                  refine tw_iald X (N := (M 19 0).toNat) (f := far) 0 rfl (by omega) (by omega) dX5_next_95 ?_
                  refine tw_aload X dX5_next_96 1 rfl ?_
                  refine sr_length X sw_X5_22 (g := g) (M := M) (r := (i : Int)) ([(af, arI cy ((M 19 0).toNat) far)]) rfl (by omega) (Nat.le_of_ble_eq_true rfl) (Nat.le_of_ble_eq_true rfl) ⟨(show 0 + 2 ≤ 2 by omega), (show 0 + 20 ≤ 20 by omega)⟩ (Nat.le_of_ble_eq_true rfl) dX5_next_98 ?_
                  refine tw_iadd (z := (far (endF M (i : Int) p)) + (len M (i : Int))) X dX5_next_101 rfl ?_
                  refine tw_aload_n X dX5_next_102 6 rfl rfl ?_
                  refine tw_iload_n X dX5_next_103 4 rfl rfl ?_
                  refine tw_iald X (N := (M 19 0).toNat) (f := far) 0 rfl (by omega) (by omega) dX5_next_104 ?_
                  refine tw_icmp_ne (tgt := 111) X (In_of (by omega) (by omega)) (In_of (by omega) (by omega)) dX5_next_105 (by decide) (fun c105 => ?_) (fun c105 => ?_)
                  · skip
                    have hnc : ¬ cand M p gl (i : Int) := fun z => by have := z.2.2; omega
                    refine tw_iinc (q := 2) (x := (i : Int)) (y := (i : Int) + 1) (lv' := [(4, .int (enc ((i : Int) + 1))), (6, .int (enc (endF M (i : Int) p))), (5, .ref (rr ((i : Int)).toNat)), (0, .ref (q 0)), (1, .int (enc (p))), (2, .int (enc (gl))), (3, .ref (af))]) X dX5_next_111 rfl rfl (by decide) rfl ?_
                    refine tw_goto (tgt := 26) X dX5_next_114 (by decide) ?_
                    refine Tsub (lv' := [(4, .int (enc ((i : Int) + 1))), (0, .ref (q 0)), (1, .int (enc (p))), (2, .int (enc (gl))), (3, .ref (af))]) [0, 3, 4, 5, 6] rfl ?_
                    refine Teq (ws' := [(af, arI cy ((M 19 0).toNat) far)] ++ wS G cy q rr tt M g) (lv' := [(4, .int (enc (((i + 1 : Nat) : Int)))), (0, .ref (q 0)), (1, .int (enc (p))), (2, .int (enc (gl))), (3, .ref (af))]) (st' := []) (rfl) (lvc (i_succ i) (lvk (lvk (lvk (lvk (rfl)))))) rfl (ih26 (i + 1) (by omega) (by omega) (nc_next (P := fun j : Nat => cand M p gl (j : Int)) hb hnc))
                  · skip
                    have hcd : cand M p gl (i : Int) := ⟨by omega, he0, by omega⟩
                    have hto := toward_first hF.r hfin c33 hcd hb
                    refine tw_iload X dX5_next_108 2 rfl ?_
                    refine Tgone ([]) (wS G cy q rr tt M g) ([(af, arI cy ((M 19 0).toNat) far)]) (ws' := wS G cy q rr tt M g) rfl rfl ?_
                    refine Twiden (k' := 2) (n' := 20) (by omega) (by omega) ?_
                    exact ret _ _ _ _ dX5_next_110 ⟨by rw [if_neg c9, hto], rfl⟩
                · skip
                  refine tw_aload X dX5_next_79 0 rfl ?_
                  refine tw_iconst X dX5_next_81 ?_
                  refine sr_ldR X (g := g) (M := M) (r := (i : Int)) (v := M 1 (i : Int)) ([(af, arI cy ((M 19 0).toNat) far)]) rfl (by omega) (by decide) rfl dX5_next_82 ?_
                  have b5 := hB 1 (i : Int)
                  refine tw_goto (tgt := 90) X dX5_next_83 (by decide) ?_
                  refine Tst (st' := [.int (enc (endF M (i : Int) p))]) (by unfold endF; first | (rw [if_pos c57]; done) | (rw [if_neg c57, if_pos c65]; done) | exact absurd c57 c76 | exact absurd c76 c57) ?_
                  refine tw_istore (lv' := [(6, .int (enc (endF M (i : Int) p))), (5, .ref (rr ((i : Int)).toNat)), (4, .int (enc ((i : Int)))), (0, .ref (q 0)), (1, .int (enc (p))), (2, .int (enc (gl))), (3, .ref (af))]) X dX5_next_90 (by decide) rfl ?_
                  have he0 : 0 ≤ endF M (i : Int) p := by have := w4 (i : Int) (by omega) c33; unfold endF; split <;> (first | omega | (split <;> omega))
                  have ger := endF_rng hF.r (r := (i : Int)) (by omega) c33 he0
                  have hfe := hfar (endF M (i : Int) p) he0 ger.2.2.1
                  have hd2 := d9_rng (o := true) hF.r (a := gl) (b := endF M (i : Int) p) hg
                  have hsy2 := dst_sym (o := true) hF.r he0 hg.1
                  refine tw_aload_n X dX5_next_92 6 rfl rfl ?_
                  refine tw_iload X dX5_next_93 0 rfl ?_
                  refine tw_iald X (N := (M 19 0).toNat) (f := far) 0 rfl (by omega) (by omega) dX5_next_95 ?_
                  refine tw_aload X dX5_next_96 1 rfl ?_
                  refine sr_length X sw_X5_22 (g := g) (M := M) (r := (i : Int)) ([(af, arI cy ((M 19 0).toNat) far)]) rfl (by omega) (Nat.le_of_ble_eq_true rfl) (Nat.le_of_ble_eq_true rfl) ⟨(show 0 + 2 ≤ 2 by omega), (show 0 + 20 ≤ 20 by omega)⟩ (Nat.le_of_ble_eq_true rfl) dX5_next_98 ?_
                  refine tw_iadd (z := (far (endF M (i : Int) p)) + (len M (i : Int))) X dX5_next_101 rfl ?_
                  refine tw_aload_n X dX5_next_102 6 rfl rfl ?_
                  refine tw_iload_n X dX5_next_103 4 rfl rfl ?_
                  refine tw_iald X (N := (M 19 0).toNat) (f := far) 0 rfl (by omega) (by omega) dX5_next_104 ?_
                  refine tw_icmp_ne (tgt := 111) X (In_of (by omega) (by omega)) (In_of (by omega) (by omega)) dX5_next_105 (by decide) (fun c105 => ?_) (fun c105 => ?_)
                  · skip
                    have hnc : ¬ cand M p gl (i : Int) := fun z => by have := z.2.2; omega
                    refine tw_iinc (q := 2) (x := (i : Int)) (y := (i : Int) + 1) (lv' := [(4, .int (enc ((i : Int) + 1))), (6, .int (enc (endF M (i : Int) p))), (5, .ref (rr ((i : Int)).toNat)), (0, .ref (q 0)), (1, .int (enc (p))), (2, .int (enc (gl))), (3, .ref (af))]) X dX5_next_111 rfl rfl (by decide) rfl ?_
                    refine tw_goto (tgt := 26) X dX5_next_114 (by decide) ?_
                    refine Tsub (lv' := [(4, .int (enc ((i : Int) + 1))), (0, .ref (q 0)), (1, .int (enc (p))), (2, .int (enc (gl))), (3, .ref (af))]) [0, 3, 4, 5, 6] rfl ?_
                    refine Teq (ws' := [(af, arI cy ((M 19 0).toNat) far)] ++ wS G cy q rr tt M g) (lv' := [(4, .int (enc (((i + 1 : Nat) : Int)))), (0, .ref (q 0)), (1, .int (enc (p))), (2, .int (enc (gl))), (3, .ref (af))]) (st' := []) (rfl) (lvc (i_succ i) (lvk (lvk (lvk (lvk (rfl)))))) rfl (ih26 (i + 1) (by omega) (by omega) (nc_next (P := fun j : Nat => cand M p gl (j : Int)) hb hnc))
                  · skip
                    have hcd : cand M p gl (i : Int) := ⟨by omega, he0, by omega⟩
                    have hto := toward_first hF.r hfin c33 hcd hb
                    refine tw_iload X dX5_next_108 2 rfl ?_
                    refine Tgone ([]) (wS G cy q rr tt M g) ([(af, arI cy ((M 19 0).toNat) far)]) (ws' := wS G cy q rr tt M g) rfl rfl ?_
                    refine Twiden (k' := 2) (n' := 20) (by omega) (by omega) ?_
                    exact ret _ _ _ _ dX5_next_110 ⟨by rw [if_neg c9, hto], rfl⟩
              · skip
                refine tw_aload X dX5_next_60 0 rfl ?_
                refine tw_iconst X dX5_next_62 ?_
                refine sr_ldR X (g := g) (M := M) (r := (i : Int)) (v := M 1 (i : Int)) ([(af, arI cy ((M 19 0).toNat) far)]) rfl (by omega) (by decide) rfl dX5_next_63 ?_
                have b6 := hB 1 (i : Int)
                refine tw_iload_n X dX5_next_64 3 rfl rfl ?_
                refine tw_icmp_eq (tgt := 71) X (In_of (by omega) (by omega)) (In_of (by omega) (by omega)) dX5_next_65 (by decide) (fun c65 => ?_) (fun c65 => ?_)
                · skip
                  refine tw_aload X dX5_next_71 0 rfl ?_
                  refine tw_iconst X dX5_next_73 ?_
                  refine sr_ldR X (g := g) (M := M) (r := (i : Int)) (v := M 0 (i : Int)) ([(af, arI cy ((M 19 0).toNat) far)]) rfl (by omega) (by decide) rfl dX5_next_74 ?_
                  have b7 := hB 0 (i : Int)
                  refine tw_iload_n X dX5_next_75 3 rfl rfl ?_
                  refine tw_icmp_ne (tgt := 86) X (In_of (by omega) (by omega)) (In_of (by omega) (by omega)) dX5_next_76 (by decide) (fun c76 => ?_) (fun c76 => ?_)
                  · skip
                    refine tw_aload X dX5_next_86 0 rfl ?_
                    refine tw_iconst X dX5_next_88 ?_
                    refine sr_ldR X (g := g) (M := M) (r := (i : Int)) (v := M 0 (i : Int)) ([(af, arI cy ((M 19 0).toNat) far)]) rfl (by omega) (by decide) rfl dX5_next_89 ?_
                    have b8 := hB 0 (i : Int)
                    refine Tst (st' := [.int (enc (endF M (i : Int) p))]) (by unfold endF; first | (rw [if_pos c57]; done) | (rw [if_neg c57, if_pos c65]; done) | exact absurd c57 c76 | exact absurd c76 c57) ?_
                    refine tw_istore (lv' := [(6, .int (enc (endF M (i : Int) p))), (5, .ref (rr ((i : Int)).toNat)), (4, .int (enc ((i : Int)))), (0, .ref (q 0)), (1, .int (enc (p))), (2, .int (enc (gl))), (3, .ref (af))]) X dX5_next_90 (by decide) rfl ?_
                    have he0 : 0 ≤ endF M (i : Int) p := by have := w4 (i : Int) (by omega) c33; unfold endF; split <;> (first | omega | (split <;> omega))
                    have ger := endF_rng hF.r (r := (i : Int)) (by omega) c33 he0
                    have hfe := hfar (endF M (i : Int) p) he0 ger.2.2.1
                    have hd2 := d9_rng (o := true) hF.r (a := gl) (b := endF M (i : Int) p) hg
                    have hsy2 := dst_sym (o := true) hF.r he0 hg.1
                    refine tw_aload_n X dX5_next_92 6 rfl rfl ?_
                    refine tw_iload X dX5_next_93 0 rfl ?_
                    refine tw_iald X (N := (M 19 0).toNat) (f := far) 0 rfl (by omega) (by omega) dX5_next_95 ?_
                    refine tw_aload X dX5_next_96 1 rfl ?_
                    refine sr_length X sw_X5_22 (g := g) (M := M) (r := (i : Int)) ([(af, arI cy ((M 19 0).toNat) far)]) rfl (by omega) (Nat.le_of_ble_eq_true rfl) (Nat.le_of_ble_eq_true rfl) ⟨(show 0 + 2 ≤ 2 by omega), (show 0 + 20 ≤ 20 by omega)⟩ (Nat.le_of_ble_eq_true rfl) dX5_next_98 ?_
                    refine tw_iadd (z := (far (endF M (i : Int) p)) + (len M (i : Int))) X dX5_next_101 rfl ?_
                    refine tw_aload_n X dX5_next_102 6 rfl rfl ?_
                    refine tw_iload_n X dX5_next_103 4 rfl rfl ?_
                    refine tw_iald X (N := (M 19 0).toNat) (f := far) 0 rfl (by omega) (by omega) dX5_next_104 ?_
                    refine tw_icmp_ne (tgt := 111) X (In_of (by omega) (by omega)) (In_of (by omega) (by omega)) dX5_next_105 (by decide) (fun c105 => ?_) (fun c105 => ?_)
                    · skip
                      have hnc : ¬ cand M p gl (i : Int) := fun z => by have := z.2.2; omega
                      refine tw_iinc (q := 2) (x := (i : Int)) (y := (i : Int) + 1) (lv' := [(4, .int (enc ((i : Int) + 1))), (6, .int (enc (endF M (i : Int) p))), (5, .ref (rr ((i : Int)).toNat)), (0, .ref (q 0)), (1, .int (enc (p))), (2, .int (enc (gl))), (3, .ref (af))]) X dX5_next_111 rfl rfl (by decide) rfl ?_
                      refine tw_goto (tgt := 26) X dX5_next_114 (by decide) ?_
                      refine Tsub (lv' := [(4, .int (enc ((i : Int) + 1))), (0, .ref (q 0)), (1, .int (enc (p))), (2, .int (enc (gl))), (3, .ref (af))]) [0, 3, 4, 5, 6] rfl ?_
                      refine Teq (ws' := [(af, arI cy ((M 19 0).toNat) far)] ++ wS G cy q rr tt M g) (lv' := [(4, .int (enc (((i + 1 : Nat) : Int)))), (0, .ref (q 0)), (1, .int (enc (p))), (2, .int (enc (gl))), (3, .ref (af))]) (st' := []) (rfl) (lvc (i_succ i) (lvk (lvk (lvk (lvk (rfl)))))) rfl (ih26 (i + 1) (by omega) (by omega) (nc_next (P := fun j : Nat => cand M p gl (j : Int)) hb hnc))
                    · skip
                      have hcd : cand M p gl (i : Int) := ⟨by omega, he0, by omega⟩
                      have hto := toward_first hF.r hfin c33 hcd hb
                      refine tw_iload X dX5_next_108 2 rfl ?_
                      refine Tgone ([]) (wS G cy q rr tt M g) ([(af, arI cy ((M 19 0).toNat) far)]) (ws' := wS G cy q rr tt M g) rfl rfl ?_
                      refine Twiden (k' := 2) (n' := 20) (by omega) (by omega) ?_
                      exact ret _ _ _ _ dX5_next_110 ⟨by rw [if_neg c9, hto], rfl⟩
                  · skip
                    refine tw_aload X dX5_next_79 0 rfl ?_
                    refine tw_iconst X dX5_next_81 ?_
                    refine sr_ldR X (g := g) (M := M) (r := (i : Int)) (v := M 1 (i : Int)) ([(af, arI cy ((M 19 0).toNat) far)]) rfl (by omega) (by decide) rfl dX5_next_82 ?_
                    have b9 := hB 1 (i : Int)
                    refine tw_goto (tgt := 90) X dX5_next_83 (by decide) ?_
                    refine Tst (st' := [.int (enc (endF M (i : Int) p))]) (by unfold endF; first | (rw [if_pos c57]; done) | (rw [if_neg c57, if_pos c65]; done) | exact absurd c57 c76 | exact absurd c76 c57) ?_
                    refine tw_istore (lv' := [(6, .int (enc (endF M (i : Int) p))), (5, .ref (rr ((i : Int)).toNat)), (4, .int (enc ((i : Int)))), (0, .ref (q 0)), (1, .int (enc (p))), (2, .int (enc (gl))), (3, .ref (af))]) X dX5_next_90 (by decide) rfl ?_
                    have he0 : 0 ≤ endF M (i : Int) p := by have := w4 (i : Int) (by omega) c33; unfold endF; split <;> (first | omega | (split <;> omega))
                    have ger := endF_rng hF.r (r := (i : Int)) (by omega) c33 he0
                    have hfe := hfar (endF M (i : Int) p) he0 ger.2.2.1
                    have hd2 := d9_rng (o := true) hF.r (a := gl) (b := endF M (i : Int) p) hg
                    have hsy2 := dst_sym (o := true) hF.r he0 hg.1
                    refine tw_aload_n X dX5_next_92 6 rfl rfl ?_
                    refine tw_iload X dX5_next_93 0 rfl ?_
                    refine tw_iald X (N := (M 19 0).toNat) (f := far) 0 rfl (by omega) (by omega) dX5_next_95 ?_
                    refine tw_aload X dX5_next_96 1 rfl ?_
                    refine sr_length X sw_X5_22 (g := g) (M := M) (r := (i : Int)) ([(af, arI cy ((M 19 0).toNat) far)]) rfl (by omega) (Nat.le_of_ble_eq_true rfl) (Nat.le_of_ble_eq_true rfl) ⟨(show 0 + 2 ≤ 2 by omega), (show 0 + 20 ≤ 20 by omega)⟩ (Nat.le_of_ble_eq_true rfl) dX5_next_98 ?_
                    refine tw_iadd (z := (far (endF M (i : Int) p)) + (len M (i : Int))) X dX5_next_101 rfl ?_
                    refine tw_aload_n X dX5_next_102 6 rfl rfl ?_
                    refine tw_iload_n X dX5_next_103 4 rfl rfl ?_
                    refine tw_iald X (N := (M 19 0).toNat) (f := far) 0 rfl (by omega) (by omega) dX5_next_104 ?_
                    refine tw_icmp_ne (tgt := 111) X (In_of (by omega) (by omega)) (In_of (by omega) (by omega)) dX5_next_105 (by decide) (fun c105 => ?_) (fun c105 => ?_)
                    · skip
                      have hnc : ¬ cand M p gl (i : Int) := fun z => by have := z.2.2; omega
                      refine tw_iinc (q := 2) (x := (i : Int)) (y := (i : Int) + 1) (lv' := [(4, .int (enc ((i : Int) + 1))), (6, .int (enc (endF M (i : Int) p))), (5, .ref (rr ((i : Int)).toNat)), (0, .ref (q 0)), (1, .int (enc (p))), (2, .int (enc (gl))), (3, .ref (af))]) X dX5_next_111 rfl rfl (by decide) rfl ?_
                      refine tw_goto (tgt := 26) X dX5_next_114 (by decide) ?_
                      refine Tsub (lv' := [(4, .int (enc ((i : Int) + 1))), (0, .ref (q 0)), (1, .int (enc (p))), (2, .int (enc (gl))), (3, .ref (af))]) [0, 3, 4, 5, 6] rfl ?_
                      refine Teq (ws' := [(af, arI cy ((M 19 0).toNat) far)] ++ wS G cy q rr tt M g) (lv' := [(4, .int (enc (((i + 1 : Nat) : Int)))), (0, .ref (q 0)), (1, .int (enc (p))), (2, .int (enc (gl))), (3, .ref (af))]) (st' := []) (rfl) (lvc (i_succ i) (lvk (lvk (lvk (lvk (rfl)))))) rfl (ih26 (i + 1) (by omega) (by omega) (nc_next (P := fun j : Nat => cand M p gl (j : Int)) hb hnc))
                    · skip
                      have hcd : cand M p gl (i : Int) := ⟨by omega, he0, by omega⟩
                      have hto := toward_first hF.r hfin c33 hcd hb
                      refine tw_iload X dX5_next_108 2 rfl ?_
                      refine Tgone ([]) (wS G cy q rr tt M g) ([(af, arI cy ((M 19 0).toNat) far)]) (ws' := wS G cy q rr tt M g) rfl rfl ?_
                      refine Twiden (k' := 2) (n' := 20) (by omega) (by omega) ?_
                      exact ret _ _ _ _ dX5_next_110 ⟨by rw [if_neg c9, hto], rfl⟩
                · skip
                  have hnc : ¬ cand M p gl (i : Int) := fun z => by have h2 := z.2.1; unfold endF at h2; rw [if_neg c57, if_neg c65] at h2; omega
                  refine tw_goto (tgt := 111) X dX5_next_68 (by decide) ?_
                  refine tw_iinc (q := 1) (x := (i : Int)) (y := (i : Int) + 1) (lv' := [(4, .int (enc ((i : Int) + 1))), (5, .ref (rr ((i : Int)).toNat)), (0, .ref (q 0)), (1, .int (enc (p))), (2, .int (enc (gl))), (3, .ref (af))]) X dX5_next_111 rfl rfl (by decide) rfl ?_
                  refine tw_goto (tgt := 26) X dX5_next_114 (by decide) ?_
                  refine Tsub (lv' := [(4, .int (enc ((i : Int) + 1))), (0, .ref (q 0)), (1, .int (enc (p))), (2, .int (enc (gl))), (3, .ref (af))]) [0, 2, 3, 4, 5] rfl ?_
                  refine Teq (ws' := [(af, arI cy ((M 19 0).toNat) far)] ++ wS G cy q rr tt M g) (lv' := [(4, .int (enc (((i + 1 : Nat) : Int)))), (0, .ref (q 0)), (1, .int (enc (p))), (2, .int (enc (gl))), (3, .ref (af))]) (st' := []) (rfl) (lvc (i_succ i) (lvk (lvk (lvk (lvk (rfl)))))) rfl (ih26 (i + 1) (by omega) (by omega) (nc_next (P := fun j : Nat => cand M p gl (j : Int)) hb hnc))
      refine Tsub (lv' := [(4, .int (enc (0))), (0, .ref (q 0)), (1, .int (enc (p))), (2, .int (enc (gl))), (3, .ref (af))]) [0, 2, 3, 4, 1] rfl ?_
      refine Teq (ws' := [(af, arI cy ((M 19 0).toNat) far)] ++ wS G cy q rr tt M g) (lv' := [(4, .int (enc (((0 : Nat) : Int)))), (0, .ref (q 0)), (1, .int (enc (p))), (2, .int (enc (gl))), (3, .ref (af))]) (st' := []) (rfl) (rfl) rfl (L26 (M 16 0 + 1).toNat 0 (by omega) (by omega) (fun j hj => absurd hj (Nat.not_lt_zero j)))
    · skip
      have hnone := toward_none hF.r (p := p) (g := gl) (by omega)
      refine tw_iconst X dX5_next_21 ?_
      refine Tgone ([]) (wS G cy q rr tt M g) ([(af, arI cy ((M 19 0).toNat) far)]) (ws' := wS G cy q rr tt M g) rfl rfl ?_
      refine Twiden (k' := 2) (n' := 20) (by omega) (by omega) ?_
      exact ret _ _ _ _ dX5_next_22 (by first | exact ⟨by rw [if_pos c9], rfl⟩ | exact ⟨by rw [if_neg c9, hnone], rfl⟩)
def rowN (x y h s : Int) : Int → Int := ups (ups (ups (ups (ups (ups (ups (ups (ups (fun _ => 0) 0 x) 1 (-1)) 2 0) 3 0) 4 y) 5 h) 6 s) 7 (-1)) 8 (-1)
set_option maxRecDepth 100000 in
set_option maxHeartbeats 4000000 in
theorem m_X5_tourist {G : va_G} {cy : ClassId} {q rr tt : Nat → Nat} (M : MT) (g : Int → Int) (B : Int) (hF : WF M B) (hB2 : B ≤ 900000) (x y : Int) (hx : 0 ≤ x ∧ x < M 19 0) (hy : 0 ≤ y ∧ y < M 19 0) : Ct G cy yX5_tourist cX5_tourist 3 (some (.array .int)) ({ frames := 2, cells := 3, slots := 29, locals := 52 } : Room) 3 29 [.ref (q 0), .int (enc (x)), .int (enc (y))] (wS G cy q rr tt M g) (fun v w1 => ∃ a : Nat, v = some (.ref a) ∧ w1 = [(a, arI cy 9 (rowN x y (M 20 0) (d9 (dst M false x y))))] ++ wS G cy q rr tt M g) := by
  refine Ct.ofA (by decide) (Nat.le_of_ble_eq_true rfl) rfl rfl (Or.inr ⟨_, rfl⟩) ?_
  intro c X ret
  have hB := hF.bd (by omega)
  obtain ⟨w0, w1, w2, w3, w4⟩ := hF.r
  have h17 := hF.2.2.2.2.2.1
  have h172 := hF.2.2.2.2.2.2.1
  have h20 := hF.2.2.2.2.2.2.2.1
  refine Tlv (lv' := [(0, .ref (q 0)), (1, .int (enc (x))), (2, .int (enc (y)))]) rfl ?_
  refine tw_bipush X dX5_tourist_0 (by decide) ?_
  refine tw_newa X (N := 9) rfl (by omega) (show 0 + 1 ≤ 3 by omega) (show 0 + 9 ≤ 29 by omega) dX5_tourist_2 (fun qa2 => ?_)
  refine Tnew ([]) (wS G cy q rr tt M g) ([(qa2, arI cy 9 (fun _ => 0))]) (ws' := [(qa2, arI cy 9 (fun _ => 0))] ++ wS G cy q rr tt M g) rfl rfl ?_
  refine Twiden (k' := 0 + 1) (n' := 0 + 9) (by omega) (by omega) ?_
  refine tw_dup X dX5_tourist_4 rfl ?_
  refine tw_iconst X dX5_tourist_5 ?_
  refine tw_iload_n X dX5_tourist_6 1 rfl rfl ?_
  refine tw_iast X (N := 9) (f := (fun _ => 0)) (ws' := [(qa2, arI cy 9 (ups (fun _ => 0) (0) (x)))] ++ wS G cy q rr tt M g) 0 rfl (by decide) (by omega) dX5_tourist_7 rfl ?_
  refine tw_dup X dX5_tourist_8 rfl ?_
  refine tw_iconst X dX5_tourist_9 ?_
  refine tw_iconst X dX5_tourist_10 ?_
  refine tw_iast X (N := 9) (f := (ups (fun _ => 0) (0) (x))) (ws' := [(qa2, arI cy 9 (ups (ups (fun _ => 0) (0) (x)) (1) (-1)))] ++ wS G cy q rr tt M g) 0 rfl (by decide) (by omega) dX5_tourist_11 rfl ?_
  refine tw_dup X dX5_tourist_12 rfl ?_
  refine tw_iconst X dX5_tourist_13 ?_
  refine tw_iconst X dX5_tourist_14 ?_
  refine tw_iast X (N := 9) (f := (ups (ups (fun _ => 0) (0) (x)) (1) (-1))) (ws' := [(qa2, arI cy 9 (ups (ups (ups (fun _ => 0) (0) (x)) (1) (-1)) (2) (0)))] ++ wS G cy q rr tt M g) 0 rfl (by decide) (by omega) dX5_tourist_15 rfl ?_
  refine tw_dup X dX5_tourist_16 rfl ?_
  refine tw_iconst X dX5_tourist_17 ?_
  refine tw_iconst X dX5_tourist_18 ?_
  refine tw_iast X (N := 9) (f := (ups (ups (ups (fun _ => 0) (0) (x)) (1) (-1)) (2) (0))) (ws' := [(qa2, arI cy 9 (ups (ups (ups (ups (fun _ => 0) (0) (x)) (1) (-1)) (2) (0)) (3) (0)))] ++ wS G cy q rr tt M g) 0 rfl (by decide) (by omega) dX5_tourist_19 rfl ?_
  refine tw_dup X dX5_tourist_20 rfl ?_
  refine tw_iconst X dX5_tourist_21 ?_
  refine tw_iload_n X dX5_tourist_22 2 rfl rfl ?_
  refine tw_iast X (N := 9) (f := (ups (ups (ups (ups (fun _ => 0) (0) (x)) (1) (-1)) (2) (0)) (3) (0))) (ws' := [(qa2, arI cy 9 (ups (ups (ups (ups (ups (fun _ => 0) (0) (x)) (1) (-1)) (2) (0)) (3) (0)) (4) (y)))] ++ wS G cy q rr tt M g) 0 rfl (by decide) (by omega) dX5_tourist_23 rfl ?_
  refine tw_dup X dX5_tourist_24 rfl ?_
  refine tw_iconst X dX5_tourist_25 ?_
  refine tw_aload_n X dX5_tourist_26 0 rfl rfl ?_
  refine gf_X5_42 X (v := .int (enc (M 20 0))) 1 rfl rfl dX5_tourist_27 ?_
  have b1 := hB 20 0
  refine tw_iast X (N := 9) (f := (ups (ups (ups (ups (ups (fun _ => 0) (0) (x)) (1) (-1)) (2) (0)) (3) (0)) (4) (y))) (ws' := [(qa2, arI cy 9 (ups (ups (ups (ups (ups (ups (fun _ => 0) (0) (x)) (1) (-1)) (2) (0)) (3) (0)) (4) (y)) (5) (M 20 0)))] ++ wS G cy q rr tt M g) 0 rfl (by decide) (by omega) dX5_tourist_30 rfl ?_
  refine tw_dup X dX5_tourist_31 rfl ?_
  refine tw_bipush X dX5_tourist_32 (by decide) ?_
  refine tw_aload_n X dX5_tourist_34 0 rfl rfl ?_
  refine tw_iload_n X dX5_tourist_35 1 rfl rfl ?_
  refine tw_iconst X dX5_tourist_36 ?_
  refine tw_callV X (As := [.int (enc (x)), .int (enc (1))]) (st := [.int (enc (6)), .ref (qa2), .ref (qa2)]) vw_X5_32 (m_X5_distances (q := q) (rr := rr) (tt := tt) M g B hF hB2 false x 1 hx (Or.inl ⟨rfl, rfl⟩)) ([(qa2, arI cy 9 (ups (ups (ups (ups (ups (ups (fun _ => 0) (0) (x)) (1) (-1)) (2) (0)) (3) (0)) (4) (y)) (5) (M 20 0)))]) ([]) (sY _ _) rfl (q0 := 0) rfl rfl rfl ⟨rfl, rfl, Nat.le_of_ble_eq_true rfl, Nat.le_of_ble_eq_true rfl⟩ ⟨(show 0 + 1 + 2 ≤ 3 by omega), (show 0 + 9 + 20 ≤ 29 by omega)⟩ (Nat.le_of_ble_eq_true rfl) dX5_tourist_37 (fun v w1 hp => ?_)
  obtain ⟨af, far, rfl, hfar, rfl⟩ := hp
  refine Teq (ws' := [(qa2, arI cy 9 (ups (ups (ups (ups (ups (ups (fun _ => 0) (0) (x)) (1) (-1)) (2) (0)) (3) (0)) (4) (y)) (5) (M 20 0)))] ++ [(af, arI cy ((M 19 0).toNat) far)] ++ wS G cy q rr tt M g) (lv' := [(0, .ref (q 0)), (1, .int (enc (x))), (2, .int (enc (y)))]) (st' := [.ref (af), .int (enc (6)), .ref (qa2), .ref (qa2)]) (sY2 _ _ _) rfl rfl ?_
  refine tw_iload_n X dX5_tourist_40 2 rfl rfl ?_
  refine tw_iald X (N := (M 19 0).toNat) (f := far) 1 rfl (by omega) (by omega) dX5_tourist_41 ?_
  refine Tst (st' := [.int (enc (d9 (dst M false x y))), .int (enc (6)), .ref (qa2), .ref (qa2)]) (by rw [hfar y hy.1 hy.2]) ?_
  refine tw_iast X (N := 9) (f := (ups (ups (ups (ups (ups (ups (fun _ => 0) (0) (x)) (1) (-1)) (2) (0)) (3) (0)) (4) (y)) (5) (M 20 0))) (ws' := [(qa2, arI cy 9 (ups (ups (ups (ups (ups (ups (ups (fun _ => 0) (0) (x)) (1) (-1)) (2) (0)) (3) (0)) (4) (y)) (5) (M 20 0)) (6) (d9 (dst M false x y))))] ++ [(af, arI cy ((M 19 0).toNat) far)] ++ wS G cy q rr tt M g) 0 rfl (by decide) (by omega) dX5_tourist_42 rfl ?_
  refine tw_dup X dX5_tourist_43 rfl ?_
  refine tw_bipush X dX5_tourist_44 (by decide) ?_
  refine tw_iconst X dX5_tourist_46 ?_
  refine tw_iast X (N := 9) (f := (ups (ups (ups (ups (ups (ups (ups (fun _ => 0) (0) (x)) (1) (-1)) (2) (0)) (3) (0)) (4) (y)) (5) (M 20 0)) (6) (d9 (dst M false x y)))) (ws' := [(qa2, arI cy 9 (ups (ups (ups (ups (ups (ups (ups (ups (fun _ => 0) (0) (x)) (1) (-1)) (2) (0)) (3) (0)) (4) (y)) (5) (M 20 0)) (6) (d9 (dst M false x y))) (7) (-1)))] ++ [(af, arI cy ((M 19 0).toNat) far)] ++ wS G cy q rr tt M g) 0 rfl (by decide) (by omega) dX5_tourist_47 rfl ?_
  refine tw_dup X dX5_tourist_48 rfl ?_
  refine tw_bipush X dX5_tourist_49 (by decide) ?_
  refine tw_iconst X dX5_tourist_51 ?_
  refine tw_iast X (N := 9) (f := (ups (ups (ups (ups (ups (ups (ups (ups (fun _ => 0) (0) (x)) (1) (-1)) (2) (0)) (3) (0)) (4) (y)) (5) (M 20 0)) (6) (d9 (dst M false x y))) (7) (-1))) (ws' := [(qa2, arI cy 9 (ups (ups (ups (ups (ups (ups (ups (ups (ups (fun _ => 0) (0) (x)) (1) (-1)) (2) (0)) (3) (0)) (4) (y)) (5) (M 20 0)) (6) (d9 (dst M false x y))) (7) (-1)) (8) (-1)))] ++ [(af, arI cy ((M 19 0).toNat) far)] ++ wS G cy q rr tt M g) 0 rfl (by decide) (by omega) dX5_tourist_52 rfl ?_
  refine Tgone ([(qa2, arI cy 9 (ups (ups (ups (ups (ups (ups (ups (ups (ups (fun _ => 0) (0) (x)) (1) (-1)) (2) (0)) (3) (0)) (4) (y)) (5) (M 20 0)) (6) (d9 (dst M false x y))) (7) (-1)) (8) (-1)))]) (wS G cy q rr tt M g) ([(af, arI cy ((M 19 0).toNat) far)]) (ws' := [(qa2, arI cy 9 (ups (ups (ups (ups (ups (ups (ups (ups (ups (fun _ => 0) (0) (x)) (1) (-1)) (2) (0)) (3) (0)) (4) (y)) (5) (M 20 0)) (6) (d9 (dst M false x y))) (7) (-1)) (8) (-1)))] ++ wS G cy q rr tt M g) rfl rfl ?_
  refine Twiden (k' := 3) (n' := 29) (by omega) (by omega) ?_
  exact ret _ _ _ _ dX5_tourist_53 ⟨_, rfl, rfl⟩
