/-! THE SIM'S HOUR -/
/-- the last column of the rows: the end of the road that one is on -/
def GE (M : MT) (g : Int → Int) : Prop := ∀ t : Int, 0 ≤ t → t < M 17 0 → 0 ≤ M 8 t → g t = M 9 t
theorem GE.congr {M N : MT} {g : Int → Int} (h : GE M g) (h17 : N 17 0 = M 17 0) (h8 : N 8 = M 8) (h9 : N 9 = M 9) : GE N g := by
  intro t t0 t1 t2
  rw [h17] at t1
  rw [h8] at t2
  rw [h9]
  exact h t t0 t1 t2
theorem tour1_17 (M : MT) (t : Int) : tour1 M t 17 = M 17 := tour1_fix M t (by omega)
theorem GE.tour {M : MT} {g g' : Int → Int} {t : Int} (h : GE M g) (ho : ∀ t' : Int, t' ≠ t → g' t' = g t') (ht : 0 ≤ tour1 M t 8 t → g' t = tour1 M t 9 t) : GE (tour1 M t) g' := by
  intro t' t0 t1 t2
  rw [tour1_17] at t1
  by_cases e : t' = t
  · subst e; exact ht t2
  · rw [tour1_oth M t (by decide) (by decide) e] at t2 ⊢
    rw [ho t' e]
    exact h t' t0 t1 t2
theorem mend1_opN {M : MT} {r : Int} (h : 0 < M 6 r) (h2 : M 6 r - 1 = 0) (h3 : 3 ≤ M 5 r) : mend1 M r = up (up M 6 r (M 6 r - 1)) 4 r 0 := by
  rw [mend1_open h h2]
  show up (up (up M 6 r (M 6 r - 1)) 4 r 0) 5 r (if M 5 r < 3 then M 5 r + 1 else M 5 r) = _
  rw [if_neg (by omega)]
  exact up_self (up (up M 6 r (M 6 r - 1)) 4 r 0) 5 r
theorem mend1_opY {M : MT} {r : Int} (h : 0 < M 6 r) (h2 : M 6 r - 1 = 0) (h3 : M 5 r < 3) : mend1 M r = up (up (up M 6 r (M 6 r - 1)) 4 r 0) 5 r (M 5 r + 1) := by
  rw [mend1_open h h2]
  show up (up (up M 6 r (M 6 r - 1)) 4 r 0) 5 r (if M 5 r < 3 then M 5 r + 1 else M 5 r) = _
  rw [if_pos h3]
theorem outT_on {M : MT} {t : Int} (h : M 7 t < 0) : outT M t = M := if_pos h
theorem outT_go {M : MT} {t : Int} (h : 0 ≤ M 7 t) (h2 : 0 ≤ toward M (M 7 t) (M 11 t)) : outT M t = goR M t (toward M (M 7 t) (M 11 t)) := by
  unfold outT
  rw [if_neg (by omega), if_neg (by omega)]
theorem tour1_stay {M : MT} {t : Int} (h15 : M 15 t < 0) (h7 : 0 ≤ M 7 t) (h8 : M 8 t < 0) (h : toward M (M 7 t) (M 11 t) < 0) : tour1 M t = M := by
  rw [tour1_go (by omega)]
  have e : outT M t = M := by
    unfold outT
    rw [if_neg (by omega), if_pos h]
  rw [e]
  exact if_pos h8
theorem walkT_1 {M : MT} {t h : Int} (h8 : 0 ≤ M 8 t) (h1 : 0 < M 10 t - 1) : walkT M t h = up M 10 t (M 10 t - 1) := by
  unfold walkT
  rw [if_neg (by omega), if_pos h1]
theorem walkT_2 {M : MT} {t h : Int} (h8 : 0 ≤ M 8 t) (h1 : M 10 t - 1 ≤ 0) (h2 : M 9 t ≠ M 11 t) : walkT M t h = up (up (up M 10 t (M 10 t - 1)) 7 t (M 9 t)) 8 t (-1) := by
  unfold walkT
  rw [if_neg (by omega), if_neg (by omega), if_neg h2]
theorem walkT_3 {M : MT} {t h : Int} (h8 : 0 ≤ M 8 t) (h1 : M 10 t - 1 ≤ 0) (h2 : M 9 t = M 11 t) : walkT M t h = upc (up (up (up (up M 10 t (M 10 t - 1)) 7 t (M 9 t)) 8 t (-1)) 15 t (h + 1 - M 13 t)) 18 (M 18 0 + 1) := by
  unfold walkT
  rw [if_neg (by omega), if_neg (by omega), if_pos h2]
theorem up_cong {X Y : MT} {k k' : Nat} {i v : Int} (h : X k = Y k) : up X k' i v k = up Y k' i v k := by
  funext j
  rw [up_eq, up_eq, h]
theorem goR_sim (M : MT) (t r : Int) {k : Nat} (h : k ≠ 9) : goR M t r k = up (up (up (up (up M 7 t (-1)) 8 t r) 10 t (len M r)) 12 t (mixD (M 12 t) (M 3 r))) 4 r (M 4 r + 1) k := by
  show up (up (up (up (up (up M 7 t (-1)) 8 t r) 9 t (endF M r (M 7 t))) 10 t (len M r)) 12 t (mixD (M 12 t) (M 3 r))) 4 r (M 4 r + 1) k = _
  exact up_cong (up_cong (up_cong (up_n _ h _ _)))
theorem hours_17 (M : MT) : ∀ n : Nat, hoursM M n 17 = M 17
  | 0 => rfl
  | n + 1 => by rw [hoursM_s, hour_fix' (by omega), hours_17 M n]
set_option maxRecDepth 100000 in
set_option maxHeartbeats 4000000 in
theorem m_X5_pass {G : va_G} {cy : ClassId} {q rr tt : Nat → Nat} (M : MT) (g : Int → Int) (B : Int) (hF : WF M B) (hB2 : B ≤ 800000) (hG0 : GE M g) : Ct G cy yX5_pass cX5_pass 7 none ({ frames := 3, cells := 24, slots := 240, locals := 78 } : Room) 24 240 [.ref (q 0)] (wS G cy q rr tt M g) (fun v w1 => v = none ∧ ∃ g' : Int → Int, GE (hourM M) g' ∧ w1 = wS G cy q rr tt (hourM M) g') := by
  refine Ct.ofV (by decide) (Nat.le_of_ble_eq_true rfl) rfl rfl ?_
  intro c X ret
  have hB := hF.bd (by omega)
  obtain ⟨w0, w1, w2, w3, w4⟩ := hF.r
  have h17 := hF.2.2.2.2.2.1
  have h172 := hF.2.2.2.2.2.2.1
  have h20 := hF.2.2.2.2.2.2.2.1
  have hA := hF.k_mendI (M 16 0).toNat
  have a16 : mendI M (M 16 0).toNat 16 0 = M 16 0 := by rw [mendI_eq M (by omega)]
  have a17 : mendI M (M 16 0).toNat 17 0 = M 17 0 := by rw [mendI_eq M (by omega)]
  have a19 : mendI M (M 16 0).toNat 19 0 = M 19 0 := by rw [mendI_eq M (by omega)]
  have a20 : mendI M (M 16 0).toNat 20 0 = M 20 0 := by rw [mendI_eq M (by omega)]
  have a8 : mendI M (M 16 0).toNat 8 = M 8 := by rw [mendI_eq M (by omega)]
  have a9 : mendI M (M 16 0).toNat 9 = M 9 := by rw [mendI_eq M (by omega)]
  generalize hAe : mendI M (M 16 0).toNat = A at hA a16 a17 a19 a20 a8 a9
  refine Tlv (lv' := [(0, .ref (q 0))]) rfl ?_
  refine tw_aload_n X dX5_pass_0 0 rfl rfl ?_
  refine gf_X5_9 X (v := .ref (q 1)) 0 rfl rfl dX5_pass_1 ?_
  refine tw_astore_n (lv' := [(1, .ref (q 1)), (0, .ref (q 0))]) X dX5_pass_4 rfl (by decide) rfl ?_
  refine tw_aload_n X dX5_pass_5 0 rfl rfl ?_
  refine sr_lenR X (g := g) ([]) rfl (by omega) dX5_pass_6 ?_
  refine tw_istore_n (lv' := [(2, .int (enc (M 16 0))), (1, .ref (q 1)), (0, .ref (q 0))]) X dX5_pass_7 rfl (by decide) rfl ?_
  refine tw_iconst X dX5_pass_8 ?_
  refine tw_istore_n (lv' := [(3, .int (enc (0))), (2, .int (enc (M 16 0))), (1, .ref (q 1)), (0, .ref (q 0))]) X dX5_pass_9 rfl (by decide) rfl ?_
  have L10 : ∀ (fu i : Nat), (i : Int) ≤ M 16 0 → M 16 0 + 1 ≤ (i : Int) + fu → T G c ({ frames := 3, cells := 24, slots := 240, locals := 78 } : Room) 7 0 0 (wS G cy q rr tt (mendI M i) g) 10 [(3, .int (enc ((i : Int)))), (2, .int (enc (M 16 0))), (1, .ref (q 1)), (0, .ref (q 0))] [] := by
    intro fu
    induction fu with
    | zero =>
      intro i  hi0 hi1
      exact absurd hi1 (by omega)
    | succ fu ih10 =>
      intro i  hi0_10 hi1_10 
      have hBi := (hF.k_mendI i).bd (by omega)
      have e16 : mendI M i 16 0 = M 16 0 := by rw [mendI_eq M (by omega) i]
      have d6 := (hF.k_mendI i).2.2.2.1 (i : Int)
      refine tw_iload_n X dX5_pass_10 0 rfl rfl ?_
      refine tw_iload_n X dX5_pass_11 1 rfl rfl ?_
      refine tw_icmp_ge (tgt := 77) X (In_of (by omega) (by omega)) (In_of (by omega) (by omega)) dX5_pass_12 (by decide) (fun c12 => ?_) (fun c12 => ?_)
      · skip
        have ei : (M 16 0).toNat = i := by omega
        have e17m : mendI M i 17 0 = M 17 0 := by rw [mendI_eq M (by omega) i]
        refine tw_aload_n X dX5_pass_77 3 rfl rfl ?_
        refine gf_X5_15 X (v := .ref (q 2)) 0 rfl rfl dX5_pass_78 ?_
        refine tw_astore_n (lv' := [(1, .ref (q 2)), (3, .int (enc ((i : Int)))), (2, .int (enc (M 16 0))), (0, .ref (q 0))]) X dX5_pass_81 rfl (by decide) rfl ?_
        refine tw_aload_n X dX5_pass_82 0 rfl rfl ?_
        refine sr_lenT X (g := g) ([]) rfl (by omega) dX5_pass_83 ?_
        refine tw_istore_n (lv' := [(2, .int (enc ((mendI M i) 17 0))), (1, .ref (q 2)), (3, .int (enc ((i : Int)))), (0, .ref (q 0))]) X dX5_pass_84 rfl (by decide) rfl ?_
        refine tw_iconst X dX5_pass_85 ?_
        refine tw_istore_n (lv' := [(3, .int (enc (0))), (2, .int (enc ((mendI M i) 17 0))), (1, .ref (q 2)), (0, .ref (q 0))]) X dX5_pass_86 rfl (by decide) rfl ?_
        have L87 : ∀ (fu t : Nat) (g1 : Int → Int), (t : Int) ≤ M 17 0 → M 17 0 + 1 ≤ (t : Int) + fu → GE (tourI A t) g1 → T G c ({ frames := 3, cells := 24, slots := 240, locals := 78 } : Room) 7 (2 * t) (20 * t) (wS G cy q rr tt (tourI A t) g1) 87 [(3, .int (enc ((t : Int)))), (2, .int (enc (M 17 0))), (1, .ref (q 2)), (0, .ref (q 0))] [] := by
          intro fu
          induction fu with
          | zero =>
            intro t g1 hi0 hi1
            exact absurd hi1 (by omega)
          | succ fu ih87 =>
            intro t g1 hi0_87 hi1_87 hG
            have hFt := hA.k_tourI t (by omega)
            have hBt := hFt.bd (by omega)
            have e16 : tourI A t 16 0 = M 16 0 := by rw [tourI_fix A (by omega), a16]
            have e17 : tourI A t 17 0 = M 17 0 := by rw [tourI_fix A (by omega), a17]
            have e19 : tourI A t 19 0 = M 19 0 := by rw [tourI_fix A (by omega), a19]
            have e20 : tourI A t 20 0 = M 20 0 := by rw [tourI_fix A (by omega), a20]
            refine tw_iload_n X dX5_pass_87 0 rfl rfl ?_
            refine tw_iload_n X dX5_pass_88 1 rfl rfl ?_
            refine tw_icmp_ge (tgt := 276) X (In_of (by omega) (by omega)) (In_of (by omega) (by omega)) dX5_pass_89 (by decide) (fun c89 => ?_) (fun c89 => ?_)
            · skip
              refine tw_iconst X dX5_pass_276 ?_
              refine tw_istore_n (lv' := [(1, .int (enc (0))), (3, .int (enc ((t : Int)))), (2, .int (enc (M 17 0))), (0, .ref (q 0))]) X dX5_pass_277 rfl (by decide) rfl ?_
              have L278 : ∀ (fu i : Nat), (i : Int) ≤ M 16 0 → M 16 0 + 1 ≤ (i : Int) + fu → T G c ({ frames := 3, cells := 24, slots := 240, locals := 78 } : Room) 7 (2 * t) (20 * t) (wS G cy q rr tt (closeI (tourI A t) i) g1) 278 [(1, .int (enc ((i : Int)))), (0, .ref (q 0))] [] := by
                intro fu
                induction fu with
                | zero =>
                  intro i  hi0 hi1
                  exact absurd hi1 (by omega)
                | succ fu ih278 =>
                  intro i  hi0_278 hi1_278 
                  have hFT := hA.k_tourI t (by omega)
                  have hFc := hFT.k_closeI i
                  have hBc := hFc.bd (by omega)
                  have f16 : closeI (tourI A t) i 16 0 = M 16 0 := by rw [closeI_fix (k := 16) _ (by omega), tourI_fix A (by omega), a16]
                  have f17 : closeI (tourI A t) i 17 0 = M 17 0 := by rw [closeI_fix (k := 17) _ (by omega), tourI_fix A (by omega), a17]
                  refine tw_iload_n X dX5_pass_278 0 rfl rfl ?_
                  refine tw_aload_n X dX5_pass_279 1 rfl rfl ?_
                  refine gf_X5_9 X (v := .ref (q 1)) 0 rfl rfl dX5_pass_280 ?_
                  refine sr_lenR X (g := g1) ([]) rfl (by omega) dX5_pass_283 ?_
                  refine tw_icmp_ge (tgt := 333) X (In_of (by omega) (by omega)) (In_of (by omega) (by omega)) dX5_pass_284 (by decide) (fun c284 => ?_) (fun c284 => ?_)
                  · skip
                    have ei2 : (M 16 0).toNat = i := by omega
                    have et2 : (M 17 0).toNat = t := by omega
                    have eH : hourM M = upc (closeI (tourI A t) i) 20 (closeI (tourI A t) i 20 0 + 1) := by unfold hourM; rw [hAe, et2, ei2, closeI_fix (k := 20) _ (by omega), tourI_fix A (k := 20) (by omega), a20]
                    have hGe : GE (hourM M) g1 := by rw [eH]; exact hG.congr (by rw [upc_n _ (by decide), closeI_fix (k := 17) _ (by omega)]) (by rw [upc_n _ (by decide), closeI_fix (k := 8) _ (by omega)]) (by rw [upc_n _ (by decide), closeI_fix (k := 9) _ (by omega)])
                    refine tw_aload_n X dX5_pass_333 1 rfl rfl ?_
                    refine tw_dup X dX5_pass_334 rfl ?_
                    refine gf_X5_42 X (v := .int (enc ((closeI (tourI A t) i) 20 0))) 0 rfl rfl dX5_pass_335 ?_
                    have b1 := hBc 20 0
                    refine tw_iconst X dX5_pass_338 ?_
                    refine tw_iadd (z := ((closeI (tourI A t) i) 20 0) + 1) X dX5_pass_339 rfl ?_
                    refine pf_X5_42 X (ws' := [] ++ ([(q 0, .inr (5, [.int (enc (((closeI (tourI A t) i) 20 0) + 1)), .int (enc ((closeI (tourI A t) i) 19 0)), .ref (q 1), .ref (q 2)])), (q 1, gI G ((closeI (tourI A t) i) 16 0).toNat (fun j => some (rr j))), (q 2, gI G ((closeI (tourI A t) i) 17 0).toNat (fun j => some (tt j)))] ++ (rowsR cy rr (closeI (tourI A t) i) ((closeI (tourI A t) i) 16 0).toNat ++ rowsT cy tt (closeI (tourI A t) i) g1 ((closeI (tourI A t) i) 17 0).toNat))) 0 rfl (Nat.le_of_ble_eq_true rfl) rfl rfl dX5_pass_340 rfl ?_
                    refine Tws (ws' := wS G cy q rr tt (upc (closeI (tourI A t) i) 20 (((closeI (tourI A t) i) 20 0) + 1)) g1) (congrArg (fun z => [] ++ z) (wS_put20 _ _ _ _ _ _ _ _)) ?_
                    refine Twiden (k' := 24) (n' := 240) (by omega) (by omega) ?_
                    exact ret _ _ _ dX5_pass_343 ⟨rfl, g1, hGe, by rw [eH]⟩
                  · skip
                    have hri : 0 ≤ (i : Int) ∧ (i : Int) < closeI (tourI A t) i 16 0 := by omega
                    refine tw_aload_n X dX5_pass_287 1 rfl rfl ?_
                    refine gf_X5_9 X (v := .ref (q 1)) 0 rfl rfl dX5_pass_288 ?_
                    refine tw_iload_n X dX5_pass_291 0 rfl rfl ?_
                    refine sr_aaR X (g := g1) (M := (closeI (tourI A t) i)) (r := (i : Int)) ([]) rfl hri (by omega) dX5_pass_292 ?_
                    refine tw_iconst X dX5_pass_293 ?_
                    refine sr_ldR X (g := g1) (M := (closeI (tourI A t) i)) (r := (i : Int)) (v := (closeI (tourI A t) i) 6 (i : Int)) ([]) rfl hri (by decide) rfl dX5_pass_294 ?_
                    have b2 := hBc 6 (i : Int)
                    refine tw_if_ne (tgt := 327) X (In_of (by omega) (by omega)) dX5_pass_295 (by decide) (fun c295 => ?_) (fun c295 => ?_)
                    · skip
                      have eM : closeI (tourI A t) (i + 1) = closeI (tourI A t) i := by rw [closeI_s, close1_no (fun z => c295 z.1)]
                      refine tw_iinc (q := 0) (x := (i : Int)) (y := (i : Int) + 1) (lv' := [(1, .int (enc ((i : Int) + 1))), (0, .ref (q 0))]) X dX5_pass_327 rfl rfl (by decide) rfl ?_
                      refine tw_goto (tgt := 278) X dX5_pass_330 (by decide) ?_
                      refine Tsub (lv' := [(1, .int (enc ((i : Int) + 1))), (0, .ref (q 0))]) [0, 1] rfl ?_
                      refine Teq (ws' := wS G cy q rr tt (closeI (tourI A t) (i + 1)) g1) (lv' := [(1, .int (enc (((i + 1 : Nat) : Int)))), (0, .ref (q 0))]) (st' := []) (congrArg (fun M9 => wS G cy q rr tt M9 g1) eM.symm) (lvc (i_succ i) (lvk (rfl))) rfl (ih278 (i + 1) (by omega) (by omega))
                    · skip
                      refine tw_aload_n X dX5_pass_298 1 rfl rfl ?_
                      refine gf_X5_9 X (v := .ref (q 1)) 0 rfl rfl dX5_pass_299 ?_
                      refine tw_iload_n X dX5_pass_302 0 rfl rfl ?_
                      refine sr_aaR X (g := g1) (M := (closeI (tourI A t) i)) (r := (i : Int)) ([]) rfl hri (by omega) dX5_pass_303 ?_
                      refine tw_iconst X dX5_pass_304 ?_
                      refine sr_ldR X (g := g1) (M := (closeI (tourI A t) i)) (r := (i : Int)) (v := (closeI (tourI A t) i) 4 (i : Int)) ([]) rfl hri (by decide) rfl dX5_pass_305 ?_
                      have b3 := hBc 4 (i : Int)
                      refine tw_iconst X dX5_pass_306 ?_
                      refine tw_icmp_le (tgt := 327) X (In_of (by omega) (by omega)) (In_of (by omega) (by omega)) dX5_pass_307 (by decide) (fun c307 => ?_) (fun c307 => ?_)
                      · skip
                        have eM : closeI (tourI A t) (i + 1) = closeI (tourI A t) i := by rw [closeI_s, close1_no (fun z => by omega)]
                        refine tw_iinc (q := 0) (x := (i : Int)) (y := (i : Int) + 1) (lv' := [(1, .int (enc ((i : Int) + 1))), (0, .ref (q 0))]) X dX5_pass_327 rfl rfl (by decide) rfl ?_
                        refine tw_goto (tgt := 278) X dX5_pass_330 (by decide) ?_
                        refine Tsub (lv' := [(1, .int (enc ((i : Int) + 1))), (0, .ref (q 0))]) [0, 1] rfl ?_
                        refine Teq (ws' := wS G cy q rr tt (closeI (tourI A t) (i + 1)) g1) (lv' := [(1, .int (enc (((i + 1 : Nat) : Int)))), (0, .ref (q 0))]) (st' := []) (congrArg (fun M9 => wS G cy q rr tt M9 g1) eM.symm) (lvc (i_succ i) (lvk (rfl))) rfl (ih278 (i + 1) (by omega) (by omega))
                      · skip
                        refine tw_aload_n X dX5_pass_310 1 rfl rfl ?_
                        refine tw_iload_n X dX5_pass_311 0 rfl rfl ?_
                        refine tw_callV X (As := [.int (enc ((i : Int)))]) (st := []) vw_X5_45 (m_X5_on (q := q) (rr := rr) (tt := tt) (closeI (tourI A t) i) g1 (B + 2 * t) hFc (by omega) ((i : Int)) (by omega)) ([]) ([]) (sY _ _) rfl (q0 := 0) rfl rfl rfl ⟨rfl, rfl, Nat.le_of_ble_eq_true rfl, Nat.le_of_ble_eq_true rfl⟩ ⟨(show 2 * t + 0 ≤ 24 by omega), (show 20 * t + 0 ≤ 240 by omega)⟩ (Nat.le_of_ble_eq_true rfl) dX5_pass_312 (fun v w1 hp => ?_)
                        obtain ⟨rfl, rfl⟩ := hp
                        refine Teq (ws' := wS G cy q rr tt (closeI (tourI A t) i) g1) (lv' := [(1, .int (enc ((i : Int)))), (0, .ref (q 0))]) (st' := [.int (enc (onR (closeI (tourI A t) i) (i : Int) ((closeI (tourI A t) i) 17 0).toNat))]) (sY _ _).symm rfl rfl ?_
                        have on := onR_rng (closeI (tourI A t) i) (i : Int) (closeI (tourI A t) i 17 0).toNat
                        refine tw_if_ne (tgt := 327) X (In_of (by omega) (by omega)) dX5_pass_315 (by decide) (fun c315 => ?_) (fun c315 => ?_)
                        · skip
                          have eM : closeI (tourI A t) (i + 1) = closeI (tourI A t) i := by rw [closeI_s, close1_no (fun z => c315 z.2.2)]
                          refine tw_iinc (q := 0) (x := (i : Int)) (y := (i : Int) + 1) (lv' := [(1, .int (enc ((i : Int) + 1))), (0, .ref (q 0))]) X dX5_pass_327 rfl rfl (by decide) rfl ?_
                          refine tw_goto (tgt := 278) X dX5_pass_330 (by decide) ?_
                          refine Tsub (lv' := [(1, .int (enc ((i : Int) + 1))), (0, .ref (q 0))]) [0, 1] rfl ?_
                          refine Teq (ws' := wS G cy q rr tt (closeI (tourI A t) (i + 1)) g1) (lv' := [(1, .int (enc (((i + 1 : Nat) : Int)))), (0, .ref (q 0))]) (st' := []) (congrArg (fun M9 => wS G cy q rr tt M9 g1) eM.symm) (lvc (i_succ i) (lvk (rfl))) rfl (ih278 (i + 1) (by omega) (by omega))
                        · skip
                          have eM : closeI (tourI A t) (i + 1) = up (closeI (tourI A t) i) 6 (i : Int) 4 := by rw [closeI_s, close1_y ⟨c295, by omega, c315⟩]
                          refine tw_aload_n X dX5_pass_318 1 rfl rfl ?_
                          refine gf_X5_9 X (v := .ref (q 1)) 0 rfl rfl dX5_pass_319 ?_
                          refine tw_iload_n X dX5_pass_322 0 rfl rfl ?_
                          refine sr_aaR X (g := g1) (M := (closeI (tourI A t) i)) (r := (i : Int)) ([]) rfl hri (by omega) dX5_pass_323 ?_
                          refine tw_iconst X dX5_pass_324 ?_
                          refine tw_iconst X dX5_pass_325 ?_
                          refine sr_stR X (g := g1) (M := (closeI (tourI A t) i)) (r := (i : Int)) (v := 4) (ws' := wS G cy q rr tt (up (closeI (tourI A t) i) 6 ((i : Int)) (4)) g1) ([]) rfl hri (by decide) rfl (by decide) rfl dX5_pass_326 ?_
                          refine tw_iinc (q := 0) (x := (i : Int)) (y := (i : Int) + 1) (lv' := [(1, .int (enc ((i : Int) + 1))), (0, .ref (q 0))]) X dX5_pass_327 rfl rfl (by decide) rfl ?_
                          refine tw_goto (tgt := 278) X dX5_pass_330 (by decide) ?_
                          refine Tsub (lv' := [(1, .int (enc ((i : Int) + 1))), (0, .ref (q 0))]) [0, 1] rfl ?_
                          refine Teq (ws' := wS G cy q rr tt (closeI (tourI A t) (i + 1)) g1) (lv' := [(1, .int (enc (((i + 1 : Nat) : Int)))), (0, .ref (q 0))]) (st' := []) (congrArg (fun M9 => wS G cy q rr tt M9 g1) eM.symm) (lvc (i_succ i) (lvk (rfl))) rfl (ih278 (i + 1) (by omega) (by omega))
              refine Tsub (lv' := [(1, .int (enc (0))), (0, .ref (q 0))]) [0, 3] rfl ?_
              refine Teq (ws' := wS G cy q rr tt (closeI (tourI A t) 0) g1) (lv' := [(1, .int (enc (((0 : Nat) : Int)))), (0, .ref (q 0))]) (st' := []) (rfl) (rfl) rfl (L278 (M 16 0 + 1).toNat 0 (by omega) (by omega))
            · skip
              have hTI := hFt.2.2.2.2.2.2.2.2.2.1 (t : Int) (by omega) (by omega)
              unfold TI at hTI
              have htj : 0 ≤ (t : Int) ∧ (t : Int) < tourI A t 17 0 := by omega
              have ha := arrT_ok hFt htj
              refine tw_aload_n X dX5_pass_92 2 rfl rfl ?_
              refine tw_iload_n X dX5_pass_93 0 rfl rfl ?_
              refine sr_aaT X (g := g1) (M := (tourI A t)) (t := (t : Int)) ([]) rfl htj (by omega) dX5_pass_94 ?_
              refine tw_astore (lv' := [(4, .ref (tt ((t : Int)).toNat)), (3, .int (enc ((t : Int)))), (2, .int (enc (M 17 0))), (1, .ref (q 2)), (0, .ref (q 0))]) X dX5_pass_95 (by decide) rfl ?_
              refine tw_aload X dX5_pass_97 0 rfl ?_
              refine tw_bipush X dX5_pass_99 (by decide) ?_
              refine sr_ldT X (g := g1) (M := (tourI A t)) (t := (t : Int)) (v := arrT (tourI A t) (t : Int)) ([]) rfl htj (by decide) rfl dX5_pass_101 ?_
              refine tw_if_lt (tgt := 108) X (In_of (by omega) (by omega)) dX5_pass_102 (by decide) (fun c102 => ?_) (fun c102 => ?_)
              · skip
                refine tw_aload X dX5_pass_108 0 rfl ?_
                refine tw_iconst X dX5_pass_110 ?_
                refine sr_ldT X (g := g1) (M := (tourI A t)) (t := (t : Int)) (v := (tourI A t) 8 (t : Int)) ([]) rfl htj (by decide) rfl dX5_pass_111 ?_
                have b4 := hBt 8 (t : Int)
                refine tw_if_ge (tgt := 216) X (In_of (by omega) (by omega)) dX5_pass_112 (by decide) (fun c112 => ?_) (fun c112 => ?_)
                · skip
                  have hO : (outT (tourI A t) (t : Int)) = (tourI A t) := outT_on (by omega)
                  refine Tws (ws' := wS G cy q rr tt (outT (tourI A t) (t : Int)) g1) (congrArg (fun M9 => wS G cy q rr tt M9 g1) hO.symm) ?_
                  have o8 : 0 ≤ (outT (tourI A t) (t : Int)) 8 (t : Int) := by rw [hO]; omega
                  have o9 : g1 (t : Int) = (outT (tourI A t) (t : Int)) 9 (t : Int) := by rw [hO]; exact hG (t : Int) (by omega) (by omega) (by omega)
                  have o9g : g1 (t : Int) = (outT (tourI A t) (t : Int)) 9 (t : Int) := o9
                  have og : ∀ t9 : Int, t9 ≠ (t : Int) → g1 t9 = g1 t9 := fun _ _ => rfl
                  have hFo := hFt.k_outT (t := (t : Int)) (by omega) (by omega)
                  have hBo := hFo.bd (by omega)
                  have p17 : (outT (tourI A t) (t : Int)) 17 0 = M 17 0 := by rw [outT_fix (k := 17) _ _ (by omega)]; exact e17
                  have hto2 : 0 ≤ (t : Int) ∧ (t : Int) < (outT (tourI A t) (t : Int)) 17 0 := by omega
                  have p20 : (outT (tourI A t) (t : Int)) 20 0 = tourI A t 20 0 := by rw [outT_fix (k := 20) _ _ (by omega)]
                  have p13 : (outT (tourI A t) (t : Int)) 13 (t : Int) = tourI A t 13 (t : Int) := by rw [outT_fix (k := 13) _ _ (by omega)]
                  have h15n : ¬ 0 ≤ tourI A t 15 (t : Int) := by omega
                  have bo10 := hBo 10 (t : Int)
                  have bo9 := hBo 9 (t : Int)
                  have bo11 := hBo 11 (t : Int)
                  have bo20 := hBo 20 0
                  refine tw_aload X dX5_pass_216 0 rfl ?_
                  refine tw_iconst X dX5_pass_218 ?_
                  refine tw_dup2 X dX5_pass_219 rfl rfl ?_
                  refine sr_ldT X (g := g1) (M := (outT (tourI A t) (t : Int))) (t := (t : Int)) (v := (outT (tourI A t) (t : Int)) 10 (t : Int)) ([]) rfl hto2 (by decide) rfl dX5_pass_220 ?_
                  have b5 := hBo 10 (t : Int)
                  refine tw_iconst X dX5_pass_221 ?_
                  refine tw_isub (z := ((outT (tourI A t) (t : Int)) 10 (t : Int)) - 1) X dX5_pass_222 rfl ?_
                  refine sr_stT X (g := g1) (M := (outT (tourI A t) (t : Int))) (t := (t : Int)) (v := ((outT (tourI A t) (t : Int)) 10 (t : Int)) - 1) (ws' := wS G cy q rr tt (up (outT (tourI A t) (t : Int)) 10 ((t : Int)) (((outT (tourI A t) (t : Int)) 10 (t : Int)) - 1)) g1) ([]) rfl hto2 (by decide) rfl (by decide) rfl dX5_pass_223 ?_
                  refine tw_aload X dX5_pass_224 0 rfl ?_
                  refine tw_iconst X dX5_pass_226 ?_
                  refine sr_ldT X (g := g1) (M := (up (outT (tourI A t) (t : Int)) 10 ((t : Int)) (((outT (tourI A t) (t : Int)) 10 (t : Int)) - 1))) (t := (t : Int)) (v := ((outT (tourI A t) (t : Int)) 10 (t : Int)) - 1) ([]) rfl hto2 (by decide) (up_same (outT (tourI A t) (t : Int)) 10 ((t : Int)) (((outT (tourI A t) (t : Int)) 10 (t : Int)) - 1)) dX5_pass_227 ?_
                  refine tw_if_le (tgt := 234) X (In_of (by omega) (by omega)) dX5_pass_228 (by decide) (fun c228 => ?_) (fun c228 => ?_)
                  · skip
                    refine tw_aload X dX5_pass_234 0 rfl ?_
                    refine tw_iconst X dX5_pass_236 ?_
                    refine tw_aload X dX5_pass_237 0 rfl ?_
                    refine tw_bipush X dX5_pass_239 (by decide) ?_
                    refine sr_ldT X (g := g1) (M := (up (outT (tourI A t) (t : Int)) 10 ((t : Int)) (((outT (tourI A t) (t : Int)) 10 (t : Int)) - 1))) (t := (t : Int)) (v := g1 (t : Int)) ([]) rfl hto2 (by decide) rfl dX5_pass_241 ?_
                    refine Tst (st' := [.int (enc ((outT (tourI A t) (t : Int)) 9 (t : Int))), .int (enc (0)), .ref (tt ((t : Int)).toNat)]) (by rw [o9]) ?_
                    have b6 := hBo 9 (t : Int)
                    refine sr_stT X (g := g1) (M := (up (outT (tourI A t) (t : Int)) 10 ((t : Int)) (((outT (tourI A t) (t : Int)) 10 (t : Int)) - 1))) (t := (t : Int)) (v := (outT (tourI A t) (t : Int)) 9 (t : Int)) (ws' := wS G cy q rr tt (up (up (outT (tourI A t) (t : Int)) 10 ((t : Int)) (((outT (tourI A t) (t : Int)) 10 (t : Int)) - 1)) 7 ((t : Int)) ((outT (tourI A t) (t : Int)) 9 (t : Int))) g1) ([]) rfl hto2 (by decide) rfl (by decide) rfl dX5_pass_242 ?_
                    refine tw_aload X dX5_pass_243 0 rfl ?_
                    refine tw_iconst X dX5_pass_245 ?_
                    refine tw_iconst X dX5_pass_246 ?_
                    refine sr_stT X (g := g1) (M := (up (up (outT (tourI A t) (t : Int)) 10 ((t : Int)) (((outT (tourI A t) (t : Int)) 10 (t : Int)) - 1)) 7 ((t : Int)) ((outT (tourI A t) (t : Int)) 9 (t : Int)))) (t := (t : Int)) (v := -1) (ws' := wS G cy q rr tt (up (up (up (outT (tourI A t) (t : Int)) 10 ((t : Int)) (((outT (tourI A t) (t : Int)) 10 (t : Int)) - 1)) 7 ((t : Int)) ((outT (tourI A t) (t : Int)) 9 (t : Int))) 8 ((t : Int)) (-1)) g1) ([]) rfl hto2 (by decide) rfl (by decide) rfl dX5_pass_247 ?_
                    refine tw_aload X dX5_pass_248 0 rfl ?_
                    refine tw_iconst X dX5_pass_250 ?_
                    refine sr_ldT X (g := g1) (M := (up (up (up (outT (tourI A t) (t : Int)) 10 ((t : Int)) (((outT (tourI A t) (t : Int)) 10 (t : Int)) - 1)) 7 ((t : Int)) ((outT (tourI A t) (t : Int)) 9 (t : Int))) 8 ((t : Int)) (-1))) (t := (t : Int)) (v := (outT (tourI A t) (t : Int)) 9 (t : Int)) ([]) rfl hto2 (by decide) (up_same (up (outT (tourI A t) (t : Int)) 10 ((t : Int)) (((outT (tourI A t) (t : Int)) 10 (t : Int)) - 1)) 7 ((t : Int)) ((outT (tourI A t) (t : Int)) 9 (t : Int))) dX5_pass_251 ?_
                    have b7 := hBo 9 (t : Int)
                    refine tw_aload X dX5_pass_252 0 rfl ?_
                    refine tw_iconst X dX5_pass_254 ?_
                    refine sr_ldT X (g := g1) (M := (up (up (up (outT (tourI A t) (t : Int)) 10 ((t : Int)) (((outT (tourI A t) (t : Int)) 10 (t : Int)) - 1)) 7 ((t : Int)) ((outT (tourI A t) (t : Int)) 9 (t : Int))) 8 ((t : Int)) (-1))) (t := (t : Int)) (v := (outT (tourI A t) (t : Int)) 11 (t : Int)) ([]) rfl hto2 (by decide) rfl dX5_pass_255 ?_
                    have b8 := hBo 11 (t : Int)
                    refine tw_icmp_ne (tgt := 270) X (In_of (by omega) (by omega)) (In_of (by omega) (by omega)) dX5_pass_256 (by decide) (fun c256 => ?_) (fun c256 => ?_)
                    · skip
                      have eM : tourI A (t + 1) = up (up (up (outT (tourI A t) (t : Int)) 10 (t : Int) ((outT (tourI A t) (t : Int)) 10 (t : Int) - 1)) 7 (t : Int) ((outT (tourI A t) (t : Int)) 9 (t : Int))) 8 (t : Int) (-1) := by rw [tourI_s, tour1_go h15n, walkT_2 o8 c228 c256]
                      have hWS : wS G cy q rr tt (up (up (up (outT (tourI A t) (t : Int)) 10 ((t : Int)) (((outT (tourI A t) (t : Int)) 10 (t : Int)) - 1)) 7 ((t : Int)) ((outT (tourI A t) (t : Int)) 9 (t : Int))) 8 ((t : Int)) (-1)) g1 = wS G cy q rr tt (tourI A (t + 1)) g1 := by rw [eM]
                      have hGn : GE (tourI A (t + 1)) g1 := by rw [tourI_s]; exact hG.tour og (fun z => absurd z (by rw [← tourI_s, eM]; show ¬ 0 ≤ up _ 8 (t : Int) (-1) 8 (t : Int); rw [up_same]; decide))
                      refine tw_iinc (q := 1) (x := (t : Int)) (y := (t : Int) + 1) (lv' := [(3, .int (enc ((t : Int) + 1))), (4, .ref (tt ((t : Int)).toNat)), (2, .int (enc (M 17 0))), (1, .ref (q 2)), (0, .ref (q 0))]) X dX5_pass_270 rfl rfl (by decide) rfl ?_
                      refine tw_goto (tgt := 87) X dX5_pass_273 (by decide) ?_
                      refine Twiden (k' := 2 * (t + 1)) (n' := 20 * (t + 1)) (by omega) (by omega) ?_
                      refine Tsub (lv' := [(3, .int (enc ((t : Int) + 1))), (2, .int (enc (M 17 0))), (1, .ref (q 2)), (0, .ref (q 0))]) [0, 2, 3, 4] rfl ?_
                      refine Teq (ws' := wS G cy q rr tt (tourI A (t + 1)) (g1)) (lv' := [(3, .int (enc (((t + 1 : Nat) : Int)))), (2, .int (enc (M 17 0))), (1, .ref (q 2)), (0, .ref (q 0))]) (st' := []) (hWS) (lvc (i_succ t) (lvk (lvk (lvk (rfl))))) rfl (ih87 (t + 1) (g1) (by omega) (by omega) (hGn))
                    · skip
                      refine tw_aload X dX5_pass_259 0 rfl ?_
                      refine tw_bipush X dX5_pass_261 (by decide) ?_
                      refine tw_aload_n X dX5_pass_263 4 rfl rfl ?_
                      refine gf_X5_42 X (v := .int (enc ((outT (tourI A t) (t : Int)) 20 0))) 0 rfl rfl dX5_pass_264 ?_
                      have b9 := hBo 20 0
                      refine tw_iconst X dX5_pass_267 ?_
                      refine tw_iadd (z := ((outT (tourI A t) (t : Int)) 20 0) + 1) X dX5_pass_268 rfl ?_
                      refine sr_st7 X (g := g1) (M := (up (up (up (outT (tourI A t) (t : Int)) 10 ((t : Int)) (((outT (tourI A t) (t : Int)) 10 (t : Int)) - 1)) 7 ((t : Int)) ((outT (tourI A t) (t : Int)) 9 (t : Int))) 8 ((t : Int)) (-1))) (t := (t : Int)) (v := ((outT (tourI A t) (t : Int)) 20 0) + 1) (ws' := wS G cy q rr tt (up (up (up (up (outT (tourI A t) (t : Int)) 10 ((t : Int)) (((outT (tourI A t) (t : Int)) 10 (t : Int)) - 1)) 7 ((t : Int)) ((outT (tourI A t) (t : Int)) 9 (t : Int))) 8 ((t : Int)) (-1)) 15 ((t : Int)) (((outT (tourI A t) (t : Int)) 20 0) + 1 - (outT (tourI A t) (t : Int)) 13 (t : Int))) g1) ([]) rfl hto2 (show (outT (tourI A t) (t : Int)) 13 (t : Int) ≤ (outT (tourI A t) (t : Int)) 20 0 + 1 by omega) rfl dX5_pass_269 ?_
                      have eM : tourI A (t + 1) = upc (up (up (up (up (outT (tourI A t) (t : Int)) 10 (t : Int) ((outT (tourI A t) (t : Int)) 10 (t : Int) - 1)) 7 (t : Int) ((outT (tourI A t) (t : Int)) 9 (t : Int))) 8 (t : Int) (-1)) 15 (t : Int) ((outT (tourI A t) (t : Int)) 20 0 + 1 - (outT (tourI A t) (t : Int)) 13 (t : Int))) 18 ((outT (tourI A t) (t : Int)) 18 0 + 1) := by rw [tourI_s, tour1_go h15n, walkT_3 o8 c228 c256, p20]
                      have hWS : wS G cy q rr tt (up (up (up (up (outT (tourI A t) (t : Int)) 10 ((t : Int)) (((outT (tourI A t) (t : Int)) 10 (t : Int)) - 1)) 7 ((t : Int)) ((outT (tourI A t) (t : Int)) 9 (t : Int))) 8 ((t : Int)) (-1)) 15 ((t : Int)) (((outT (tourI A t) (t : Int)) 20 0) + 1 - (outT (tourI A t) (t : Int)) 13 (t : Int))) g1 = wS G cy q rr tt (tourI A (t + 1)) g1 := by rw [eM]; exact (wS_congr (fun k h9 h18 => upc_n _ h18 _) (fun _ _ _ => rfl)).symm
                      have hGn : GE (tourI A (t + 1)) g1 := by rw [tourI_s]; exact hG.tour og (fun z => absurd z (by rw [← tourI_s, eM]; show ¬ 0 ≤ up _ 8 (t : Int) (-1) 8 (t : Int); rw [up_same]; decide))
                      refine tw_iinc (q := 1) (x := (t : Int)) (y := (t : Int) + 1) (lv' := [(3, .int (enc ((t : Int) + 1))), (4, .ref (tt ((t : Int)).toNat)), (2, .int (enc (M 17 0))), (1, .ref (q 2)), (0, .ref (q 0))]) X dX5_pass_270 rfl rfl (by decide) rfl ?_
                      refine tw_goto (tgt := 87) X dX5_pass_273 (by decide) ?_
                      refine Twiden (k' := 2 * (t + 1)) (n' := 20 * (t + 1)) (by omega) (by omega) ?_
                      refine Tsub (lv' := [(3, .int (enc ((t : Int) + 1))), (2, .int (enc (M 17 0))), (1, .ref (q 2)), (0, .ref (q 0))]) [0, 2, 3, 4] rfl ?_
                      refine Teq (ws' := wS G cy q rr tt (tourI A (t + 1)) (g1)) (lv' := [(3, .int (enc (((t + 1 : Nat) : Int)))), (2, .int (enc (M 17 0))), (1, .ref (q 2)), (0, .ref (q 0))]) (st' := []) (hWS) (lvc (i_succ t) (lvk (lvk (lvk (rfl))))) rfl (ih87 (t + 1) (g1) (by omega) (by omega) (hGn))
                  · skip
                    have eM : tourI A (t + 1) = up (outT (tourI A t) (t : Int)) 10 (t : Int) ((outT (tourI A t) (t : Int)) 10 (t : Int) - 1) := by rw [tourI_s, tour1_go h15n, walkT_1 o8 c228]
                    refine tw_goto (tgt := 270) X dX5_pass_231 (by decide) ?_
                    have hWS : wS G cy q rr tt (up (outT (tourI A t) (t : Int)) 10 ((t : Int)) (((outT (tourI A t) (t : Int)) 10 (t : Int)) - 1)) g1 = wS G cy q rr tt (tourI A (t + 1)) g1 := by rw [eM]
                    have hGn : GE (tourI A (t + 1)) g1 := by rw [tourI_s]; exact hG.tour og (fun _ => by rw [← tourI_s, eM]; exact o9g)
                    refine tw_iinc (q := 1) (x := (t : Int)) (y := (t : Int) + 1) (lv' := [(3, .int (enc ((t : Int) + 1))), (4, .ref (tt ((t : Int)).toNat)), (2, .int (enc (M 17 0))), (1, .ref (q 2)), (0, .ref (q 0))]) X dX5_pass_270 rfl rfl (by decide) rfl ?_
                    refine tw_goto (tgt := 87) X dX5_pass_273 (by decide) ?_
                    refine Twiden (k' := 2 * (t + 1)) (n' := 20 * (t + 1)) (by omega) (by omega) ?_
                    refine Tsub (lv' := [(3, .int (enc ((t : Int) + 1))), (2, .int (enc (M 17 0))), (1, .ref (q 2)), (0, .ref (q 0))]) [0, 2, 3, 4] rfl ?_
                    refine Teq (ws' := wS G cy q rr tt (tourI A (t + 1)) (g1)) (lv' := [(3, .int (enc (((t + 1 : Nat) : Int)))), (2, .int (enc (M 17 0))), (1, .ref (q 2)), (0, .ref (q 0))]) (st' := []) (hWS) (lvc (i_succ t) (lvk (lvk (lvk (rfl))))) rfl (ih87 (t + 1) (g1) (by omega) (by omega) (hGn))
                · skip
                  refine tw_aload_n X dX5_pass_115 4 rfl rfl ?_
                  refine tw_aload X dX5_pass_116 0 rfl ?_
                  refine tw_iconst X dX5_pass_118 ?_
                  refine sr_ldT X (g := g1) (M := (tourI A t)) (t := (t : Int)) (v := (tourI A t) 7 (t : Int)) ([]) rfl htj (by decide) rfl dX5_pass_119 ?_
                  have b10 := hBt 7 (t : Int)
                  refine tw_aload X dX5_pass_120 0 rfl ?_
                  refine tw_iconst X dX5_pass_122 ?_
                  refine sr_ldT X (g := g1) (M := (tourI A t)) (t := (t : Int)) (v := (tourI A t) 11 (t : Int)) ([]) rfl htj (by decide) rfl dX5_pass_123 ?_
                  have b11 := hBt 11 (t : Int)
                  refine tw_callV X (As := [.int (enc ((tourI A t) 7 (t : Int))), .int (enc ((tourI A t) 11 (t : Int)))]) (st := []) vw_X5_36 (m_X5_next (q := q) (rr := rr) (tt := tt) (tourI A t) g1 (B + 2 * t) hFt (by omega) ((tourI A t) 7 (t : Int)) ((tourI A t) 11 (t : Int)) (by omega) (by omega)) ([]) ([]) (sY _ _) rfl (q0 := 0) rfl rfl rfl ⟨rfl, rfl, Nat.le_of_ble_eq_true rfl, Nat.le_of_ble_eq_true rfl⟩ ⟨(show 2 * t + 2 ≤ 24 by omega), (show 20 * t + 20 ≤ 240 by omega)⟩ (Nat.le_of_ble_eq_true rfl) dX5_pass_124 (fun v w1 hp => ?_)
                  obtain ⟨rfl, rfl⟩ := hp
                  refine Teq (ws' := wS G cy q rr tt (tourI A t) g1) (lv' := [(4, .ref (tt ((t : Int)).toNat)), (3, .int (enc ((t : Int)))), (2, .int (enc (M 17 0))), (1, .ref (q 2)), (0, .ref (q 0))]) (st' := [.int (enc (if ((tourI A t) 7 (t : Int)) = ((tourI A t) 11 (t : Int)) then -1 else toward (tourI A t) ((tourI A t) 7 (t : Int)) ((tourI A t) 11 (t : Int))))]) (sY _ _).symm rfl rfl ?_
                  have hto := toward_ok hFt.r (tourI A t 7 (t : Int)) (tourI A t 11 (t : Int))
                  refine Tst (st' := [.int (enc (toward (tourI A t) (tourI A t 7 (t : Int)) (tourI A t 11 (t : Int))))]) (by rw [if_neg (show tourI A t 7 (t : Int) ≠ tourI A t 11 (t : Int) by omega)]) ?_
                  refine tw_istore (lv' := [(5, .int (enc (toward (tourI A t) (tourI A t 7 (t : Int)) (tourI A t 11 (t : Int))))), (4, .ref (tt ((t : Int)).toNat)), (3, .int (enc ((t : Int)))), (2, .int (enc (M 17 0))), (1, .ref (q 2)), (0, .ref (q 0))]) X dX5_pass_127 (by decide) rfl ?_
                  refine tw_iload X dX5_pass_129 0 rfl ?_
                  refine tw_if_ge (tgt := 137) X (In_of (by omega) (by omega)) dX5_pass_131 (by decide) (fun c131 => ?_) (fun c131 => ?_)
                  · skip
                    have hrj : 0 ≤ (toward (tourI A t) (tourI A t 7 (t : Int)) (tourI A t 11 (t : Int))) ∧ (toward (tourI A t) (tourI A t 7 (t : Int)) (tourI A t 11 (t : Int))) < tourI A t 16 0 := by omega
                    have heo := endF_ok hFt.r (a := tourI A t 7 (t : Int)) hrj.1 hrj.2 (by omega)
                    have hwr := hFt.r.2.2.2.2 (toward (tourI A t) (tourI A t 7 (t : Int)) (tourI A t 11 (t : Int))) hrj.1 hrj.2
                    have hwd := hFt.2.2.2.2.1 (toward (tourI A t) (tourI A t 7 (t : Int)) (tourI A t 11 (t : Int))) hrj.1 hrj.2
                    refine tw_aload_n X dX5_pass_137 5 rfl rfl ?_
                    refine gf_X5_9 X (v := .ref (q 1)) 0 rfl rfl dX5_pass_138 ?_
                    refine tw_iload X dX5_pass_141 0 rfl ?_
                    refine sr_aaR X (g := g1) (M := (tourI A t)) (r := toward (tourI A t) (tourI A t 7 (t : Int)) (tourI A t 11 (t : Int))) ([]) rfl hrj (by omega) dX5_pass_143 ?_
                    refine tw_astore (lv' := [(6, .ref (rr (toward (tourI A t) (tourI A t 7 (t : Int)) (tourI A t 11 (t : Int))).toNat)), (5, .int (enc (toward (tourI A t) (tourI A t 7 (t : Int)) (tourI A t 11 (t : Int))))), (4, .ref (tt ((t : Int)).toNat)), (3, .int (enc ((t : Int)))), (2, .int (enc (M 17 0))), (1, .ref (q 2)), (0, .ref (q 0))]) X dX5_pass_144 (by decide) rfl ?_
                    refine tw_aload X dX5_pass_146 2 rfl ?_
                    refine tw_bipush X dX5_pass_148 (by decide) ?_
                    refine tw_aload X dX5_pass_150 0 rfl ?_
                    refine tw_iconst X dX5_pass_152 ?_
                    refine sr_ldR X (g := g1) (M := (tourI A t)) (r := toward (tourI A t) (tourI A t 7 (t : Int)) (tourI A t 11 (t : Int))) (v := (tourI A t) 0 (toward (tourI A t) (tourI A t 7 (t : Int)) (tourI A t 11 (t : Int)))) ([]) rfl hrj (by decide) rfl dX5_pass_153 ?_
                    have b12 := hBt 0 ((toward (tourI A t) (tourI A t 7 (t : Int)) (tourI A t 11 (t : Int))))
                    refine tw_aload X dX5_pass_154 2 rfl ?_
                    refine tw_iconst X dX5_pass_156 ?_
                    refine sr_ldT X (g := g1) (M := (tourI A t)) (t := (t : Int)) (v := (tourI A t) 7 (t : Int)) ([]) rfl htj (by decide) rfl dX5_pass_157 ?_
                    have b13 := hBt 7 (t : Int)
                    refine tw_icmp_ne (tgt := 168) X (In_of (by omega) (by omega)) (In_of (by omega) (by omega)) dX5_pass_158 (by decide) (fun c158 => ?_) (fun c158 => ?_)
                    · skip
                      refine tw_aload X dX5_pass_168 0 rfl ?_
                      refine tw_iconst X dX5_pass_170 ?_
                      refine sr_ldR X (g := g1) (M := (tourI A t)) (r := toward (tourI A t) (tourI A t 7 (t : Int)) (tourI A t 11 (t : Int))) (v := (tourI A t) 0 (toward (tourI A t) (tourI A t 7 (t : Int)) (tourI A t 11 (t : Int)))) ([]) rfl hrj (by decide) rfl dX5_pass_171 ?_
                      have b14 := hBt 0 ((toward (tourI A t) (tourI A t 7 (t : Int)) (tourI A t 11 (t : Int))))
                      refine Tst (st' := [.int (enc (endF (tourI A t) (toward (tourI A t) (tourI A t 7 (t : Int)) (tourI A t 11 (t : Int))) (tourI A t 7 (t : Int)))), .int (enc (8)), .ref (tt ((t : Int)).toNat)]) (by rw [show (tourI A t) 0 (toward (tourI A t) (tourI A t 7 (t : Int)) (tourI A t 11 (t : Int))) = endF (tourI A t) (toward (tourI A t) (tourI A t 7 (t : Int)) (tourI A t 11 (t : Int))) (tourI A t 7 (t : Int)) by omega]) ?_
                      refine sr_st8 X (g := g1) (M := (tourI A t)) (t := (t : Int)) (v := endF (tourI A t) (toward (tourI A t) (tourI A t 7 (t : Int)) (tourI A t 11 (t : Int))) (tourI A t 7 (t : Int))) (ws' := wS G cy q rr tt (tourI A t) (ups g1 ((t : Int)) (endF (tourI A t) (toward (tourI A t) (tourI A t 7 (t : Int)) (tourI A t 11 (t : Int))) (tourI A t 7 (t : Int))))) ([]) rfl htj rfl dX5_pass_172 ?_
                      refine tw_aload X dX5_pass_173 2 rfl ?_
                      refine tw_iconst X dX5_pass_175 ?_
                      refine tw_iconst X dX5_pass_176 ?_
                      refine sr_stT X (g := (ups g1 ((t : Int)) (endF (tourI A t) (toward (tourI A t) (tourI A t 7 (t : Int)) (tourI A t 11 (t : Int))) (tourI A t 7 (t : Int))))) (M := (tourI A t)) (t := (t : Int)) (v := -1) (ws' := wS G cy q rr tt (up (tourI A t) 7 ((t : Int)) (-1)) (ups g1 ((t : Int)) (endF (tourI A t) (toward (tourI A t) (tourI A t 7 (t : Int)) (tourI A t 11 (t : Int))) (tourI A t 7 (t : Int))))) ([]) rfl htj (by decide) rfl (by decide) rfl dX5_pass_177 ?_
                      refine tw_aload X dX5_pass_178 2 rfl ?_
                      refine tw_iconst X dX5_pass_180 ?_
                      refine tw_iload X dX5_pass_181 1 rfl ?_
                      refine sr_stT X (g := (ups g1 ((t : Int)) (endF (tourI A t) (toward (tourI A t) (tourI A t 7 (t : Int)) (tourI A t 11 (t : Int))) (tourI A t 7 (t : Int))))) (M := (up (tourI A t) 7 ((t : Int)) (-1))) (t := (t : Int)) (v := toward (tourI A t) (tourI A t 7 (t : Int)) (tourI A t 11 (t : Int))) (ws' := wS G cy q rr tt (up (up (tourI A t) 7 ((t : Int)) (-1)) 8 ((t : Int)) (toward (tourI A t) (tourI A t 7 (t : Int)) (tourI A t 11 (t : Int)))) (ups g1 ((t : Int)) (endF (tourI A t) (toward (tourI A t) (tourI A t 7 (t : Int)) (tourI A t 11 (t : Int))) (tourI A t 7 (t : Int))))) ([]) rfl htj (by decide) rfl (by decide) rfl dX5_pass_183 ?_
                      refine tw_aload X dX5_pass_184 2 rfl ?_
                      refine tw_iconst X dX5_pass_186 ?_
                      refine tw_aload X dX5_pass_187 0 rfl ?_
                      refine sr_length X sw_X5_22 (g := (ups g1 ((t : Int)) (endF (tourI A t) (toward (tourI A t) (tourI A t 7 (t : Int)) (tourI A t 11 (t : Int))) (tourI A t 7 (t : Int))))) (M := (up (up (tourI A t) 7 ((t : Int)) (-1)) 8 ((t : Int)) (toward (tourI A t) (tourI A t 7 (t : Int)) (tourI A t 11 (t : Int))))) (r := toward (tourI A t) (tourI A t 7 (t : Int)) (tourI A t 11 (t : Int))) ([]) rfl hrj (Nat.le_of_ble_eq_true rfl) (Nat.le_of_ble_eq_true rfl) ⟨(show 2 * t + 2 ≤ 24 by omega), (show 20 * t + 20 ≤ 240 by omega)⟩ (Nat.le_of_ble_eq_true rfl) dX5_pass_189 ?_
                      refine sr_stT X (g := (ups g1 ((t : Int)) (endF (tourI A t) (toward (tourI A t) (tourI A t 7 (t : Int)) (tourI A t 11 (t : Int))) (tourI A t 7 (t : Int))))) (M := (up (up (tourI A t) 7 ((t : Int)) (-1)) 8 ((t : Int)) (toward (tourI A t) (tourI A t 7 (t : Int)) (tourI A t 11 (t : Int))))) (t := (t : Int)) (v := len (tourI A t) (toward (tourI A t) (tourI A t 7 (t : Int)) (tourI A t 11 (t : Int)))) (ws' := wS G cy q rr tt (up (up (up (tourI A t) 7 ((t : Int)) (-1)) 8 ((t : Int)) (toward (tourI A t) (tourI A t 7 (t : Int)) (tourI A t 11 (t : Int)))) 10 ((t : Int)) (len (tourI A t) (toward (tourI A t) (tourI A t 7 (t : Int)) (tourI A t 11 (t : Int))))) (ups g1 ((t : Int)) (endF (tourI A t) (toward (tourI A t) (tourI A t 7 (t : Int)) (tourI A t 11 (t : Int))) (tourI A t 7 (t : Int))))) ([]) rfl htj (by decide) rfl (by decide) rfl dX5_pass_192 ?_
                      refine tw_aload X dX5_pass_193 2 rfl ?_
                      refine tw_iconst X dX5_pass_195 ?_
                      refine tw_aload X dX5_pass_196 2 rfl ?_
                      refine tw_iconst X dX5_pass_198 ?_
                      refine sr_ldT X (g := (ups g1 ((t : Int)) (endF (tourI A t) (toward (tourI A t) (tourI A t 7 (t : Int)) (tourI A t 11 (t : Int))) (tourI A t 7 (t : Int))))) (M := (up (up (up (tourI A t) 7 ((t : Int)) (-1)) 8 ((t : Int)) (toward (tourI A t) (tourI A t 7 (t : Int)) (tourI A t 11 (t : Int)))) 10 ((t : Int)) (len (tourI A t) (toward (tourI A t) (tourI A t 7 (t : Int)) (tourI A t 11 (t : Int)))))) (t := (t : Int)) (v := (tourI A t) 12 (t : Int)) ([]) rfl htj (by decide) rfl dX5_pass_199 ?_
                      have b15 := hBt 12 (t : Int)
                      refine tw_aload X dX5_pass_200 0 rfl ?_
                      refine tw_iconst X dX5_pass_202 ?_
                      refine sr_ldR X (g := (ups g1 ((t : Int)) (endF (tourI A t) (toward (tourI A t) (tourI A t 7 (t : Int)) (tourI A t 11 (t : Int))) (tourI A t 7 (t : Int))))) (M := (up (up (up (tourI A t) 7 ((t : Int)) (-1)) 8 ((t : Int)) (toward (tourI A t) (tourI A t 7 (t : Int)) (tourI A t 11 (t : Int)))) 10 ((t : Int)) (len (tourI A t) (toward (tourI A t) (tourI A t 7 (t : Int)) (tourI A t 11 (t : Int)))))) (r := toward (tourI A t) (tourI A t 7 (t : Int)) (tourI A t 11 (t : Int))) (v := (tourI A t) 3 (toward (tourI A t) (tourI A t 7 (t : Int)) (tourI A t 11 (t : Int)))) ([]) rfl hrj (by decide) rfl dX5_pass_203 ?_
                      have b16 := hBt 3 ((toward (tourI A t) (tourI A t 7 (t : Int)) (tourI A t 11 (t : Int))))
                      refine tw_callS X (As := [.int (enc ((tourI A t) 12 (t : Int))), .int (enc ((tourI A t) 3 (toward (tourI A t) (tourI A t 7 (t : Int)) (tourI A t 11 (t : Int)))))]) (st := [.int (enc (3)), .ref (tt ((t : Int)).toNat)]) sw_X5_39 (m_X5_mixed ((tourI A t) 12 (t : Int)) ((tourI A t) 3 (toward (tourI A t) (tourI A t 7 (t : Int)) (tourI A t 11 (t : Int)))) (by omega) hwd) ([]) (wS G cy q rr tt (up (up (up (tourI A t) 7 ((t : Int)) (-1)) 8 ((t : Int)) (toward (tourI A t) (tourI A t 7 (t : Int)) (tourI A t 11 (t : Int)))) 10 ((t : Int)) (len (tourI A t) (toward (tourI A t) (tourI A t 7 (t : Int)) (tourI A t 11 (t : Int))))) (ups g1 ((t : Int)) (endF (tourI A t) (toward (tourI A t) (tourI A t 7 (t : Int)) (tourI A t 11 (t : Int))) (tourI A t 7 (t : Int))))) rfl rfl rfl ⟨rfl, rfl, Nat.le_of_ble_eq_true rfl, Nat.le_of_ble_eq_true rfl⟩ ⟨(show 2 * t + 2 + 0 ≤ 24 by omega), (show 20 * t + 20 + 0 ≤ 240 by omega)⟩ (Nat.le_of_ble_eq_true rfl) dX5_pass_204 (fun v w1 hp => ?_)
                      obtain ⟨rfl, rfl⟩ := hp
                      refine Teq (ws' := wS G cy q rr tt (up (up (up (tourI A t) 7 ((t : Int)) (-1)) 8 ((t : Int)) (toward (tourI A t) (tourI A t 7 (t : Int)) (tourI A t 11 (t : Int)))) 10 ((t : Int)) (len (tourI A t) (toward (tourI A t) (tourI A t 7 (t : Int)) (tourI A t 11 (t : Int))))) (ups g1 ((t : Int)) (endF (tourI A t) (toward (tourI A t) (tourI A t 7 (t : Int)) (tourI A t 11 (t : Int))) (tourI A t 7 (t : Int))))) (lv' := [(6, .ref (rr (toward (tourI A t) (tourI A t 7 (t : Int)) (tourI A t 11 (t : Int))).toNat)), (5, .int (enc (toward (tourI A t) (tourI A t 7 (t : Int)) (tourI A t 11 (t : Int))))), (4, .ref (tt ((t : Int)).toNat)), (3, .int (enc ((t : Int)))), (2, .int (enc (M 17 0))), (1, .ref (q 2)), (0, .ref (q 0))]) (st' := [.int (enc (mixD ((tourI A t) 12 (t : Int)) ((tourI A t) 3 (toward (tourI A t) (tourI A t 7 (t : Int)) (tourI A t 11 (t : Int)))))), .int (enc (3)), .ref (tt ((t : Int)).toNat)]) rfl rfl rfl ?_
                      refine sr_stT X (g := (ups g1 ((t : Int)) (endF (tourI A t) (toward (tourI A t) (tourI A t 7 (t : Int)) (tourI A t 11 (t : Int))) (tourI A t 7 (t : Int))))) (M := (up (up (up (tourI A t) 7 ((t : Int)) (-1)) 8 ((t : Int)) (toward (tourI A t) (tourI A t 7 (t : Int)) (tourI A t 11 (t : Int)))) 10 ((t : Int)) (len (tourI A t) (toward (tourI A t) (tourI A t 7 (t : Int)) (tourI A t 11 (t : Int)))))) (t := (t : Int)) (v := mixD ((tourI A t) 12 (t : Int)) ((tourI A t) 3 (toward (tourI A t) (tourI A t 7 (t : Int)) (tourI A t 11 (t : Int))))) (ws' := wS G cy q rr tt (up (up (up (up (tourI A t) 7 ((t : Int)) (-1)) 8 ((t : Int)) (toward (tourI A t) (tourI A t 7 (t : Int)) (tourI A t 11 (t : Int)))) 10 ((t : Int)) (len (tourI A t) (toward (tourI A t) (tourI A t 7 (t : Int)) (tourI A t 11 (t : Int))))) 12 ((t : Int)) (mixD ((tourI A t) 12 (t : Int)) ((tourI A t) 3 (toward (tourI A t) (tourI A t 7 (t : Int)) (tourI A t 11 (t : Int)))))) (ups g1 ((t : Int)) (endF (tourI A t) (toward (tourI A t) (tourI A t 7 (t : Int)) (tourI A t 11 (t : Int))) (tourI A t 7 (t : Int))))) ([]) rfl htj (by decide) rfl (by decide) rfl dX5_pass_207 ?_
                      refine tw_aload X dX5_pass_208 0 rfl ?_
                      refine tw_iconst X dX5_pass_210 ?_
                      refine tw_dup2 X dX5_pass_211 rfl rfl ?_
                      refine sr_ldR X (g := (ups g1 ((t : Int)) (endF (tourI A t) (toward (tourI A t) (tourI A t 7 (t : Int)) (tourI A t 11 (t : Int))) (tourI A t 7 (t : Int))))) (M := (up (up (up (up (tourI A t) 7 ((t : Int)) (-1)) 8 ((t : Int)) (toward (tourI A t) (tourI A t 7 (t : Int)) (tourI A t 11 (t : Int)))) 10 ((t : Int)) (len (tourI A t) (toward (tourI A t) (tourI A t 7 (t : Int)) (tourI A t 11 (t : Int))))) 12 ((t : Int)) (mixD ((tourI A t) 12 (t : Int)) ((tourI A t) 3 (toward (tourI A t) (tourI A t 7 (t : Int)) (tourI A t 11 (t : Int))))))) (r := toward (tourI A t) (tourI A t 7 (t : Int)) (tourI A t 11 (t : Int))) (v := (tourI A t) 4 (toward (tourI A t) (tourI A t 7 (t : Int)) (tourI A t 11 (t : Int)))) ([]) rfl hrj (by decide) rfl dX5_pass_212 ?_
                      have b17 := hBt 4 ((toward (tourI A t) (tourI A t 7 (t : Int)) (tourI A t 11 (t : Int))))
                      refine tw_iconst X dX5_pass_213 ?_
                      refine tw_iadd (z := ((tourI A t) 4 (toward (tourI A t) (tourI A t 7 (t : Int)) (tourI A t 11 (t : Int)))) + 1) X dX5_pass_214 rfl ?_
                      refine sr_stR X (g := (ups g1 ((t : Int)) (endF (tourI A t) (toward (tourI A t) (tourI A t 7 (t : Int)) (tourI A t 11 (t : Int))) (tourI A t 7 (t : Int))))) (M := (up (up (up (up (tourI A t) 7 ((t : Int)) (-1)) 8 ((t : Int)) (toward (tourI A t) (tourI A t 7 (t : Int)) (tourI A t 11 (t : Int)))) 10 ((t : Int)) (len (tourI A t) (toward (tourI A t) (tourI A t 7 (t : Int)) (tourI A t 11 (t : Int))))) 12 ((t : Int)) (mixD ((tourI A t) 12 (t : Int)) ((tourI A t) 3 (toward (tourI A t) (tourI A t 7 (t : Int)) (tourI A t 11 (t : Int))))))) (r := toward (tourI A t) (tourI A t 7 (t : Int)) (tourI A t 11 (t : Int))) (v := ((tourI A t) 4 (toward (tourI A t) (tourI A t 7 (t : Int)) (tourI A t 11 (t : Int)))) + 1) (ws' := wS G cy q rr tt (up (up (up (up (up (tourI A t) 7 ((t : Int)) (-1)) 8 ((t : Int)) (toward (tourI A t) (tourI A t 7 (t : Int)) (tourI A t 11 (t : Int)))) 10 ((t : Int)) (len (tourI A t) (toward (tourI A t) (tourI A t 7 (t : Int)) (tourI A t 11 (t : Int))))) 12 ((t : Int)) (mixD ((tourI A t) 12 (t : Int)) ((tourI A t) 3 (toward (tourI A t) (tourI A t 7 (t : Int)) (tourI A t 11 (t : Int)))))) 4 (toward (tourI A t) (tourI A t 7 (t : Int)) (tourI A t 11 (t : Int))) (((tourI A t) 4 (toward (tourI A t) (tourI A t 7 (t : Int)) (tourI A t 11 (t : Int)))) + 1)) (ups g1 ((t : Int)) (endF (tourI A t) (toward (tourI A t) (tourI A t 7 (t : Int)) (tourI A t 11 (t : Int))) (tourI A t 7 (t : Int))))) ([]) rfl hrj (by decide) rfl (by decide) rfl dX5_pass_215 ?_
                      have hO : (outT (tourI A t) (t : Int)) = goR (tourI A t) (t : Int) (toward (tourI A t) (tourI A t 7 (t : Int)) (tourI A t 11 (t : Int))) := outT_go (by omega) c131
                      refine Tws (ws' := wS G cy q rr tt (outT (tourI A t) (t : Int)) (ups g1 ((t : Int)) (endF (tourI A t) (toward (tourI A t) (tourI A t 7 (t : Int)) (tourI A t 11 (t : Int))) (tourI A t 7 (t : Int))))) (by rw [hO]; exact (wS_congr (fun k h9 h18 => goR_sim _ _ _ h9) (fun _ _ _ => rfl)).symm) ?_
                      have o8 : 0 ≤ (outT (tourI A t) (t : Int)) 8 (t : Int) := by rw [hO, goR_eq, if_neg (by omega), if_neg (by omega), if_neg (by omega), if_neg (by omega), if_pos ⟨rfl, rfl⟩]; exact c131
                      have o9 : endF (tourI A t) (toward (tourI A t) (tourI A t 7 (t : Int)) (tourI A t 11 (t : Int))) (tourI A t 7 (t : Int)) = (outT (tourI A t) (t : Int)) 9 (t : Int) := by rw [hO, goR_eq, if_neg (by omega), if_neg (by omega), if_neg (by omega), if_pos ⟨rfl, rfl⟩]
                      have o9g : (ups g1 ((t : Int)) (endF (tourI A t) (toward (tourI A t) (tourI A t 7 (t : Int)) (tourI A t 11 (t : Int))) (tourI A t 7 (t : Int)))) (t : Int) = (outT (tourI A t) (t : Int)) 9 (t : Int) := by rw [ups_same]; exact o9
                      have og : ∀ t9 : Int, t9 ≠ (t : Int) → (ups g1 ((t : Int)) (endF (tourI A t) (toward (tourI A t) (tourI A t 7 (t : Int)) (tourI A t 11 (t : Int))) (tourI A t 7 (t : Int)))) t9 = g1 t9 := fun t9 h => ups_ne _ h
                      have hFo := hFt.k_outT (t := (t : Int)) (by omega) (by omega)
                      have hBo := hFo.bd (by omega)
                      have p17 : (outT (tourI A t) (t : Int)) 17 0 = M 17 0 := by rw [outT_fix (k := 17) _ _ (by omega)]; exact e17
                      have hto2 : 0 ≤ (t : Int) ∧ (t : Int) < (outT (tourI A t) (t : Int)) 17 0 := by omega
                      have p20 : (outT (tourI A t) (t : Int)) 20 0 = tourI A t 20 0 := by rw [outT_fix (k := 20) _ _ (by omega)]
                      have p13 : (outT (tourI A t) (t : Int)) 13 (t : Int) = tourI A t 13 (t : Int) := by rw [outT_fix (k := 13) _ _ (by omega)]
                      have h15n : ¬ 0 ≤ tourI A t 15 (t : Int) := by omega
                      have bo10 := hBo 10 (t : Int)
                      have bo9 := hBo 9 (t : Int)
                      have bo11 := hBo 11 (t : Int)
                      have bo20 := hBo 20 0
                      refine tw_aload X dX5_pass_216 2 rfl ?_
                      refine tw_iconst X dX5_pass_218 ?_
                      refine tw_dup2 X dX5_pass_219 rfl rfl ?_
                      refine sr_ldT X (g := (ups g1 ((t : Int)) (endF (tourI A t) (toward (tourI A t) (tourI A t 7 (t : Int)) (tourI A t 11 (t : Int))) (tourI A t 7 (t : Int))))) (M := (outT (tourI A t) (t : Int))) (t := (t : Int)) (v := (outT (tourI A t) (t : Int)) 10 (t : Int)) ([]) rfl hto2 (by decide) rfl dX5_pass_220 ?_
                      have b18 := hBo 10 (t : Int)
                      refine tw_iconst X dX5_pass_221 ?_
                      refine tw_isub (z := ((outT (tourI A t) (t : Int)) 10 (t : Int)) - 1) X dX5_pass_222 rfl ?_
                      refine sr_stT X (g := (ups g1 ((t : Int)) (endF (tourI A t) (toward (tourI A t) (tourI A t 7 (t : Int)) (tourI A t 11 (t : Int))) (tourI A t 7 (t : Int))))) (M := (outT (tourI A t) (t : Int))) (t := (t : Int)) (v := ((outT (tourI A t) (t : Int)) 10 (t : Int)) - 1) (ws' := wS G cy q rr tt (up (outT (tourI A t) (t : Int)) 10 ((t : Int)) (((outT (tourI A t) (t : Int)) 10 (t : Int)) - 1)) (ups g1 ((t : Int)) (endF (tourI A t) (toward (tourI A t) (tourI A t 7 (t : Int)) (tourI A t 11 (t : Int))) (tourI A t 7 (t : Int))))) ([]) rfl hto2 (by decide) rfl (by decide) rfl dX5_pass_223 ?_
                      refine tw_aload X dX5_pass_224 2 rfl ?_
                      refine tw_iconst X dX5_pass_226 ?_
                      refine sr_ldT X (g := (ups g1 ((t : Int)) (endF (tourI A t) (toward (tourI A t) (tourI A t 7 (t : Int)) (tourI A t 11 (t : Int))) (tourI A t 7 (t : Int))))) (M := (up (outT (tourI A t) (t : Int)) 10 ((t : Int)) (((outT (tourI A t) (t : Int)) 10 (t : Int)) - 1))) (t := (t : Int)) (v := ((outT (tourI A t) (t : Int)) 10 (t : Int)) - 1) ([]) rfl hto2 (by decide) (up_same (outT (tourI A t) (t : Int)) 10 ((t : Int)) (((outT (tourI A t) (t : Int)) 10 (t : Int)) - 1)) dX5_pass_227 ?_
                      refine tw_if_le (tgt := 234) X (In_of (by omega) (by omega)) dX5_pass_228 (by decide) (fun c228 => ?_) (fun c228 => ?_)
                      · skip
                        refine tw_aload X dX5_pass_234 2 rfl ?_
                        refine tw_iconst X dX5_pass_236 ?_
                        refine tw_aload X dX5_pass_237 2 rfl ?_
                        refine tw_bipush X dX5_pass_239 (by decide) ?_
                        refine sr_ldT X (g := (ups g1 ((t : Int)) (endF (tourI A t) (toward (tourI A t) (tourI A t 7 (t : Int)) (tourI A t 11 (t : Int))) (tourI A t 7 (t : Int))))) (M := (up (outT (tourI A t) (t : Int)) 10 ((t : Int)) (((outT (tourI A t) (t : Int)) 10 (t : Int)) - 1))) (t := (t : Int)) (v := endF (tourI A t) (toward (tourI A t) (tourI A t 7 (t : Int)) (tourI A t 11 (t : Int))) (tourI A t 7 (t : Int))) ([]) rfl hto2 (by decide) (ups_same _ _ _) dX5_pass_241 ?_
                        refine Tst (st' := [.int (enc ((outT (tourI A t) (t : Int)) 9 (t : Int))), .int (enc (0)), .ref (tt ((t : Int)).toNat)]) (by rw [o9]) ?_
                        have b19 := hBo 9 (t : Int)
                        refine sr_stT X (g := (ups g1 ((t : Int)) (endF (tourI A t) (toward (tourI A t) (tourI A t 7 (t : Int)) (tourI A t 11 (t : Int))) (tourI A t 7 (t : Int))))) (M := (up (outT (tourI A t) (t : Int)) 10 ((t : Int)) (((outT (tourI A t) (t : Int)) 10 (t : Int)) - 1))) (t := (t : Int)) (v := (outT (tourI A t) (t : Int)) 9 (t : Int)) (ws' := wS G cy q rr tt (up (up (outT (tourI A t) (t : Int)) 10 ((t : Int)) (((outT (tourI A t) (t : Int)) 10 (t : Int)) - 1)) 7 ((t : Int)) ((outT (tourI A t) (t : Int)) 9 (t : Int))) (ups g1 ((t : Int)) (endF (tourI A t) (toward (tourI A t) (tourI A t 7 (t : Int)) (tourI A t 11 (t : Int))) (tourI A t 7 (t : Int))))) ([]) rfl hto2 (by decide) rfl (by decide) rfl dX5_pass_242 ?_
                        refine tw_aload X dX5_pass_243 2 rfl ?_
                        refine tw_iconst X dX5_pass_245 ?_
                        refine tw_iconst X dX5_pass_246 ?_
                        refine sr_stT X (g := (ups g1 ((t : Int)) (endF (tourI A t) (toward (tourI A t) (tourI A t 7 (t : Int)) (tourI A t 11 (t : Int))) (tourI A t 7 (t : Int))))) (M := (up (up (outT (tourI A t) (t : Int)) 10 ((t : Int)) (((outT (tourI A t) (t : Int)) 10 (t : Int)) - 1)) 7 ((t : Int)) ((outT (tourI A t) (t : Int)) 9 (t : Int)))) (t := (t : Int)) (v := -1) (ws' := wS G cy q rr tt (up (up (up (outT (tourI A t) (t : Int)) 10 ((t : Int)) (((outT (tourI A t) (t : Int)) 10 (t : Int)) - 1)) 7 ((t : Int)) ((outT (tourI A t) (t : Int)) 9 (t : Int))) 8 ((t : Int)) (-1)) (ups g1 ((t : Int)) (endF (tourI A t) (toward (tourI A t) (tourI A t 7 (t : Int)) (tourI A t 11 (t : Int))) (tourI A t 7 (t : Int))))) ([]) rfl hto2 (by decide) rfl (by decide) rfl dX5_pass_247 ?_
                        refine tw_aload X dX5_pass_248 2 rfl ?_
                        refine tw_iconst X dX5_pass_250 ?_
                        refine sr_ldT X (g := (ups g1 ((t : Int)) (endF (tourI A t) (toward (tourI A t) (tourI A t 7 (t : Int)) (tourI A t 11 (t : Int))) (tourI A t 7 (t : Int))))) (M := (up (up (up (outT (tourI A t) (t : Int)) 10 ((t : Int)) (((outT (tourI A t) (t : Int)) 10 (t : Int)) - 1)) 7 ((t : Int)) ((outT (tourI A t) (t : Int)) 9 (t : Int))) 8 ((t : Int)) (-1))) (t := (t : Int)) (v := (outT (tourI A t) (t : Int)) 9 (t : Int)) ([]) rfl hto2 (by decide) (up_same (up (outT (tourI A t) (t : Int)) 10 ((t : Int)) (((outT (tourI A t) (t : Int)) 10 (t : Int)) - 1)) 7 ((t : Int)) ((outT (tourI A t) (t : Int)) 9 (t : Int))) dX5_pass_251 ?_
                        have b20 := hBo 9 (t : Int)
                        refine tw_aload X dX5_pass_252 2 rfl ?_
                        refine tw_iconst X dX5_pass_254 ?_
                        refine sr_ldT X (g := (ups g1 ((t : Int)) (endF (tourI A t) (toward (tourI A t) (tourI A t 7 (t : Int)) (tourI A t 11 (t : Int))) (tourI A t 7 (t : Int))))) (M := (up (up (up (outT (tourI A t) (t : Int)) 10 ((t : Int)) (((outT (tourI A t) (t : Int)) 10 (t : Int)) - 1)) 7 ((t : Int)) ((outT (tourI A t) (t : Int)) 9 (t : Int))) 8 ((t : Int)) (-1))) (t := (t : Int)) (v := (outT (tourI A t) (t : Int)) 11 (t : Int)) ([]) rfl hto2 (by decide) rfl dX5_pass_255 ?_
                        have b21 := hBo 11 (t : Int)
                        refine tw_icmp_ne (tgt := 270) X (In_of (by omega) (by omega)) (In_of (by omega) (by omega)) dX5_pass_256 (by decide) (fun c256 => ?_) (fun c256 => ?_)
                        · skip
                          have eM : tourI A (t + 1) = up (up (up (outT (tourI A t) (t : Int)) 10 (t : Int) ((outT (tourI A t) (t : Int)) 10 (t : Int) - 1)) 7 (t : Int) ((outT (tourI A t) (t : Int)) 9 (t : Int))) 8 (t : Int) (-1) := by rw [tourI_s, tour1_go h15n, walkT_2 o8 c228 c256]
                          have hWS : wS G cy q rr tt (up (up (up (outT (tourI A t) (t : Int)) 10 ((t : Int)) (((outT (tourI A t) (t : Int)) 10 (t : Int)) - 1)) 7 ((t : Int)) ((outT (tourI A t) (t : Int)) 9 (t : Int))) 8 ((t : Int)) (-1)) (ups g1 ((t : Int)) (endF (tourI A t) (toward (tourI A t) (tourI A t 7 (t : Int)) (tourI A t 11 (t : Int))) (tourI A t 7 (t : Int)))) = wS G cy q rr tt (tourI A (t + 1)) (ups g1 ((t : Int)) (endF (tourI A t) (toward (tourI A t) (tourI A t 7 (t : Int)) (tourI A t 11 (t : Int))) (tourI A t 7 (t : Int)))) := by rw [eM]
                          have hGn : GE (tourI A (t + 1)) (ups g1 ((t : Int)) (endF (tourI A t) (toward (tourI A t) (tourI A t 7 (t : Int)) (tourI A t 11 (t : Int))) (tourI A t 7 (t : Int)))) := by rw [tourI_s]; exact hG.tour og (fun z => absurd z (by rw [← tourI_s, eM]; show ¬ 0 ≤ up _ 8 (t : Int) (-1) 8 (t : Int); rw [up_same]; decide))
                          refine tw_iinc (q := 3) (x := (t : Int)) (y := (t : Int) + 1) (lv' := [(3, .int (enc ((t : Int) + 1))), (6, .ref (rr (toward (tourI A t) (tourI A t 7 (t : Int)) (tourI A t 11 (t : Int))).toNat)), (5, .int (enc (toward (tourI A t) (tourI A t 7 (t : Int)) (tourI A t 11 (t : Int))))), (4, .ref (tt ((t : Int)).toNat)), (2, .int (enc (M 17 0))), (1, .ref (q 2)), (0, .ref (q 0))]) X dX5_pass_270 rfl rfl (by decide) rfl ?_
                          refine tw_goto (tgt := 87) X dX5_pass_273 (by decide) ?_
                          refine Twiden (k' := 2 * (t + 1)) (n' := 20 * (t + 1)) (by omega) (by omega) ?_
                          refine Tsub (lv' := [(3, .int (enc ((t : Int) + 1))), (2, .int (enc (M 17 0))), (1, .ref (q 2)), (0, .ref (q 0))]) [0, 4, 5, 6] rfl ?_
                          refine Teq (ws' := wS G cy q rr tt (tourI A (t + 1)) ((ups g1 ((t : Int)) (endF (tourI A t) (toward (tourI A t) (tourI A t 7 (t : Int)) (tourI A t 11 (t : Int))) (tourI A t 7 (t : Int)))))) (lv' := [(3, .int (enc (((t + 1 : Nat) : Int)))), (2, .int (enc (M 17 0))), (1, .ref (q 2)), (0, .ref (q 0))]) (st' := []) (hWS) (lvc (i_succ t) (lvk (lvk (lvk (rfl))))) rfl (ih87 (t + 1) ((ups g1 ((t : Int)) (endF (tourI A t) (toward (tourI A t) (tourI A t 7 (t : Int)) (tourI A t 11 (t : Int))) (tourI A t 7 (t : Int))))) (by omega) (by omega) (hGn))
                        · skip
                          refine tw_aload X dX5_pass_259 2 rfl ?_
                          refine tw_bipush X dX5_pass_261 (by decide) ?_
                          refine tw_aload_n X dX5_pass_263 6 rfl rfl ?_
                          refine gf_X5_42 X (v := .int (enc ((outT (tourI A t) (t : Int)) 20 0))) 0 rfl rfl dX5_pass_264 ?_
                          have b22 := hBo 20 0
                          refine tw_iconst X dX5_pass_267 ?_
                          refine tw_iadd (z := ((outT (tourI A t) (t : Int)) 20 0) + 1) X dX5_pass_268 rfl ?_
                          refine sr_st7 X (g := (ups g1 ((t : Int)) (endF (tourI A t) (toward (tourI A t) (tourI A t 7 (t : Int)) (tourI A t 11 (t : Int))) (tourI A t 7 (t : Int))))) (M := (up (up (up (outT (tourI A t) (t : Int)) 10 ((t : Int)) (((outT (tourI A t) (t : Int)) 10 (t : Int)) - 1)) 7 ((t : Int)) ((outT (tourI A t) (t : Int)) 9 (t : Int))) 8 ((t : Int)) (-1))) (t := (t : Int)) (v := ((outT (tourI A t) (t : Int)) 20 0) + 1) (ws' := wS G cy q rr tt (up (up (up (up (outT (tourI A t) (t : Int)) 10 ((t : Int)) (((outT (tourI A t) (t : Int)) 10 (t : Int)) - 1)) 7 ((t : Int)) ((outT (tourI A t) (t : Int)) 9 (t : Int))) 8 ((t : Int)) (-1)) 15 ((t : Int)) (((outT (tourI A t) (t : Int)) 20 0) + 1 - (outT (tourI A t) (t : Int)) 13 (t : Int))) (ups g1 ((t : Int)) (endF (tourI A t) (toward (tourI A t) (tourI A t 7 (t : Int)) (tourI A t 11 (t : Int))) (tourI A t 7 (t : Int))))) ([]) rfl hto2 (show (outT (tourI A t) (t : Int)) 13 (t : Int) ≤ (outT (tourI A t) (t : Int)) 20 0 + 1 by omega) rfl dX5_pass_269 ?_
                          have eM : tourI A (t + 1) = upc (up (up (up (up (outT (tourI A t) (t : Int)) 10 (t : Int) ((outT (tourI A t) (t : Int)) 10 (t : Int) - 1)) 7 (t : Int) ((outT (tourI A t) (t : Int)) 9 (t : Int))) 8 (t : Int) (-1)) 15 (t : Int) ((outT (tourI A t) (t : Int)) 20 0 + 1 - (outT (tourI A t) (t : Int)) 13 (t : Int))) 18 ((outT (tourI A t) (t : Int)) 18 0 + 1) := by rw [tourI_s, tour1_go h15n, walkT_3 o8 c228 c256, p20]
                          have hWS : wS G cy q rr tt (up (up (up (up (outT (tourI A t) (t : Int)) 10 ((t : Int)) (((outT (tourI A t) (t : Int)) 10 (t : Int)) - 1)) 7 ((t : Int)) ((outT (tourI A t) (t : Int)) 9 (t : Int))) 8 ((t : Int)) (-1)) 15 ((t : Int)) (((outT (tourI A t) (t : Int)) 20 0) + 1 - (outT (tourI A t) (t : Int)) 13 (t : Int))) (ups g1 ((t : Int)) (endF (tourI A t) (toward (tourI A t) (tourI A t 7 (t : Int)) (tourI A t 11 (t : Int))) (tourI A t 7 (t : Int)))) = wS G cy q rr tt (tourI A (t + 1)) (ups g1 ((t : Int)) (endF (tourI A t) (toward (tourI A t) (tourI A t 7 (t : Int)) (tourI A t 11 (t : Int))) (tourI A t 7 (t : Int)))) := by rw [eM]; exact (wS_congr (fun k h9 h18 => upc_n _ h18 _) (fun _ _ _ => rfl)).symm
                          have hGn : GE (tourI A (t + 1)) (ups g1 ((t : Int)) (endF (tourI A t) (toward (tourI A t) (tourI A t 7 (t : Int)) (tourI A t 11 (t : Int))) (tourI A t 7 (t : Int)))) := by rw [tourI_s]; exact hG.tour og (fun z => absurd z (by rw [← tourI_s, eM]; show ¬ 0 ≤ up _ 8 (t : Int) (-1) 8 (t : Int); rw [up_same]; decide))
                          refine tw_iinc (q := 3) (x := (t : Int)) (y := (t : Int) + 1) (lv' := [(3, .int (enc ((t : Int) + 1))), (6, .ref (rr (toward (tourI A t) (tourI A t 7 (t : Int)) (tourI A t 11 (t : Int))).toNat)), (5, .int (enc (toward (tourI A t) (tourI A t 7 (t : Int)) (tourI A t 11 (t : Int))))), (4, .ref (tt ((t : Int)).toNat)), (2, .int (enc (M 17 0))), (1, .ref (q 2)), (0, .ref (q 0))]) X dX5_pass_270 rfl rfl (by decide) rfl ?_
                          refine tw_goto (tgt := 87) X dX5_pass_273 (by decide) ?_
                          refine Twiden (k' := 2 * (t + 1)) (n' := 20 * (t + 1)) (by omega) (by omega) ?_
                          refine Tsub (lv' := [(3, .int (enc ((t : Int) + 1))), (2, .int (enc (M 17 0))), (1, .ref (q 2)), (0, .ref (q 0))]) [0, 4, 5, 6] rfl ?_
                          refine Teq (ws' := wS G cy q rr tt (tourI A (t + 1)) ((ups g1 ((t : Int)) (endF (tourI A t) (toward (tourI A t) (tourI A t 7 (t : Int)) (tourI A t 11 (t : Int))) (tourI A t 7 (t : Int)))))) (lv' := [(3, .int (enc (((t + 1 : Nat) : Int)))), (2, .int (enc (M 17 0))), (1, .ref (q 2)), (0, .ref (q 0))]) (st' := []) (hWS) (lvc (i_succ t) (lvk (lvk (lvk (rfl))))) rfl (ih87 (t + 1) ((ups g1 ((t : Int)) (endF (tourI A t) (toward (tourI A t) (tourI A t 7 (t : Int)) (tourI A t 11 (t : Int))) (tourI A t 7 (t : Int))))) (by omega) (by omega) (hGn))
                      · skip
                        have eM : tourI A (t + 1) = up (outT (tourI A t) (t : Int)) 10 (t : Int) ((outT (tourI A t) (t : Int)) 10 (t : Int) - 1) := by rw [tourI_s, tour1_go h15n, walkT_1 o8 c228]
                        refine tw_goto (tgt := 270) X dX5_pass_231 (by decide) ?_
                        have hWS : wS G cy q rr tt (up (outT (tourI A t) (t : Int)) 10 ((t : Int)) (((outT (tourI A t) (t : Int)) 10 (t : Int)) - 1)) (ups g1 ((t : Int)) (endF (tourI A t) (toward (tourI A t) (tourI A t 7 (t : Int)) (tourI A t 11 (t : Int))) (tourI A t 7 (t : Int)))) = wS G cy q rr tt (tourI A (t + 1)) (ups g1 ((t : Int)) (endF (tourI A t) (toward (tourI A t) (tourI A t 7 (t : Int)) (tourI A t 11 (t : Int))) (tourI A t 7 (t : Int)))) := by rw [eM]
                        have hGn : GE (tourI A (t + 1)) (ups g1 ((t : Int)) (endF (tourI A t) (toward (tourI A t) (tourI A t 7 (t : Int)) (tourI A t 11 (t : Int))) (tourI A t 7 (t : Int)))) := by rw [tourI_s]; exact hG.tour og (fun _ => by rw [← tourI_s, eM]; exact o9g)
                        refine tw_iinc (q := 3) (x := (t : Int)) (y := (t : Int) + 1) (lv' := [(3, .int (enc ((t : Int) + 1))), (6, .ref (rr (toward (tourI A t) (tourI A t 7 (t : Int)) (tourI A t 11 (t : Int))).toNat)), (5, .int (enc (toward (tourI A t) (tourI A t 7 (t : Int)) (tourI A t 11 (t : Int))))), (4, .ref (tt ((t : Int)).toNat)), (2, .int (enc (M 17 0))), (1, .ref (q 2)), (0, .ref (q 0))]) X dX5_pass_270 rfl rfl (by decide) rfl ?_
                        refine tw_goto (tgt := 87) X dX5_pass_273 (by decide) ?_
                        refine Twiden (k' := 2 * (t + 1)) (n' := 20 * (t + 1)) (by omega) (by omega) ?_
                        refine Tsub (lv' := [(3, .int (enc ((t : Int) + 1))), (2, .int (enc (M 17 0))), (1, .ref (q 2)), (0, .ref (q 0))]) [0, 4, 5, 6] rfl ?_
                        refine Teq (ws' := wS G cy q rr tt (tourI A (t + 1)) ((ups g1 ((t : Int)) (endF (tourI A t) (toward (tourI A t) (tourI A t 7 (t : Int)) (tourI A t 11 (t : Int))) (tourI A t 7 (t : Int)))))) (lv' := [(3, .int (enc (((t + 1 : Nat) : Int)))), (2, .int (enc (M 17 0))), (1, .ref (q 2)), (0, .ref (q 0))]) (st' := []) (hWS) (lvc (i_succ t) (lvk (lvk (lvk (rfl))))) rfl (ih87 (t + 1) ((ups g1 ((t : Int)) (endF (tourI A t) (toward (tourI A t) (tourI A t 7 (t : Int)) (tourI A t 11 (t : Int))) (tourI A t 7 (t : Int))))) (by omega) (by omega) (hGn))
                    · skip
                      refine tw_aload X dX5_pass_161 0 rfl ?_
                      refine tw_iconst X dX5_pass_163 ?_
                      refine sr_ldR X (g := g1) (M := (tourI A t)) (r := toward (tourI A t) (tourI A t 7 (t : Int)) (tourI A t 11 (t : Int))) (v := (tourI A t) 1 (toward (tourI A t) (tourI A t 7 (t : Int)) (tourI A t 11 (t : Int)))) ([]) rfl hrj (by decide) rfl dX5_pass_164 ?_
                      have b23 := hBt 1 ((toward (tourI A t) (tourI A t 7 (t : Int)) (tourI A t 11 (t : Int))))
                      refine tw_goto (tgt := 172) X dX5_pass_165 (by decide) ?_
                      refine Tst (st' := [.int (enc (endF (tourI A t) (toward (tourI A t) (tourI A t 7 (t : Int)) (tourI A t 11 (t : Int))) (tourI A t 7 (t : Int)))), .int (enc (8)), .ref (tt ((t : Int)).toNat)]) (by rw [show (tourI A t) 1 (toward (tourI A t) (tourI A t 7 (t : Int)) (tourI A t 11 (t : Int))) = endF (tourI A t) (toward (tourI A t) (tourI A t 7 (t : Int)) (tourI A t 11 (t : Int))) (tourI A t 7 (t : Int)) by omega]) ?_
                      refine sr_st8 X (g := g1) (M := (tourI A t)) (t := (t : Int)) (v := endF (tourI A t) (toward (tourI A t) (tourI A t 7 (t : Int)) (tourI A t 11 (t : Int))) (tourI A t 7 (t : Int))) (ws' := wS G cy q rr tt (tourI A t) (ups g1 ((t : Int)) (endF (tourI A t) (toward (tourI A t) (tourI A t 7 (t : Int)) (tourI A t 11 (t : Int))) (tourI A t 7 (t : Int))))) ([]) rfl htj rfl dX5_pass_172 ?_
                      refine tw_aload X dX5_pass_173 2 rfl ?_
                      refine tw_iconst X dX5_pass_175 ?_
                      refine tw_iconst X dX5_pass_176 ?_
                      refine sr_stT X (g := (ups g1 ((t : Int)) (endF (tourI A t) (toward (tourI A t) (tourI A t 7 (t : Int)) (tourI A t 11 (t : Int))) (tourI A t 7 (t : Int))))) (M := (tourI A t)) (t := (t : Int)) (v := -1) (ws' := wS G cy q rr tt (up (tourI A t) 7 ((t : Int)) (-1)) (ups g1 ((t : Int)) (endF (tourI A t) (toward (tourI A t) (tourI A t 7 (t : Int)) (tourI A t 11 (t : Int))) (tourI A t 7 (t : Int))))) ([]) rfl htj (by decide) rfl (by decide) rfl dX5_pass_177 ?_
                      refine tw_aload X dX5_pass_178 2 rfl ?_
                      refine tw_iconst X dX5_pass_180 ?_
                      refine tw_iload X dX5_pass_181 1 rfl ?_
                      refine sr_stT X (g := (ups g1 ((t : Int)) (endF (tourI A t) (toward (tourI A t) (tourI A t 7 (t : Int)) (tourI A t 11 (t : Int))) (tourI A t 7 (t : Int))))) (M := (up (tourI A t) 7 ((t : Int)) (-1))) (t := (t : Int)) (v := toward (tourI A t) (tourI A t 7 (t : Int)) (tourI A t 11 (t : Int))) (ws' := wS G cy q rr tt (up (up (tourI A t) 7 ((t : Int)) (-1)) 8 ((t : Int)) (toward (tourI A t) (tourI A t 7 (t : Int)) (tourI A t 11 (t : Int)))) (ups g1 ((t : Int)) (endF (tourI A t) (toward (tourI A t) (tourI A t 7 (t : Int)) (tourI A t 11 (t : Int))) (tourI A t 7 (t : Int))))) ([]) rfl htj (by decide) rfl (by decide) rfl dX5_pass_183 ?_
                      refine tw_aload X dX5_pass_184 2 rfl ?_
                      refine tw_iconst X dX5_pass_186 ?_
                      refine tw_aload X dX5_pass_187 0 rfl ?_
                      refine sr_length X sw_X5_22 (g := (ups g1 ((t : Int)) (endF (tourI A t) (toward (tourI A t) (tourI A t 7 (t : Int)) (tourI A t 11 (t : Int))) (tourI A t 7 (t : Int))))) (M := (up (up (tourI A t) 7 ((t : Int)) (-1)) 8 ((t : Int)) (toward (tourI A t) (tourI A t 7 (t : Int)) (tourI A t 11 (t : Int))))) (r := toward (tourI A t) (tourI A t 7 (t : Int)) (tourI A t 11 (t : Int))) ([]) rfl hrj (Nat.le_of_ble_eq_true rfl) (Nat.le_of_ble_eq_true rfl) ⟨(show 2 * t + 2 ≤ 24 by omega), (show 20 * t + 20 ≤ 240 by omega)⟩ (Nat.le_of_ble_eq_true rfl) dX5_pass_189 ?_
                      refine sr_stT X (g := (ups g1 ((t : Int)) (endF (tourI A t) (toward (tourI A t) (tourI A t 7 (t : Int)) (tourI A t 11 (t : Int))) (tourI A t 7 (t : Int))))) (M := (up (up (tourI A t) 7 ((t : Int)) (-1)) 8 ((t : Int)) (toward (tourI A t) (tourI A t 7 (t : Int)) (tourI A t 11 (t : Int))))) (t := (t : Int)) (v := len (tourI A t) (toward (tourI A t) (tourI A t 7 (t : Int)) (tourI A t 11 (t : Int)))) (ws' := wS G cy q rr tt (up (up (up (tourI A t) 7 ((t : Int)) (-1)) 8 ((t : Int)) (toward (tourI A t) (tourI A t 7 (t : Int)) (tourI A t 11 (t : Int)))) 10 ((t : Int)) (len (tourI A t) (toward (tourI A t) (tourI A t 7 (t : Int)) (tourI A t 11 (t : Int))))) (ups g1 ((t : Int)) (endF (tourI A t) (toward (tourI A t) (tourI A t 7 (t : Int)) (tourI A t 11 (t : Int))) (tourI A t 7 (t : Int))))) ([]) rfl htj (by decide) rfl (by decide) rfl dX5_pass_192 ?_
                      refine tw_aload X dX5_pass_193 2 rfl ?_
                      refine tw_iconst X dX5_pass_195 ?_
                      refine tw_aload X dX5_pass_196 2 rfl ?_
                      refine tw_iconst X dX5_pass_198 ?_
                      refine sr_ldT X (g := (ups g1 ((t : Int)) (endF (tourI A t) (toward (tourI A t) (tourI A t 7 (t : Int)) (tourI A t 11 (t : Int))) (tourI A t 7 (t : Int))))) (M := (up (up (up (tourI A t) 7 ((t : Int)) (-1)) 8 ((t : Int)) (toward (tourI A t) (tourI A t 7 (t : Int)) (tourI A t 11 (t : Int)))) 10 ((t : Int)) (len (tourI A t) (toward (tourI A t) (tourI A t 7 (t : Int)) (tourI A t 11 (t : Int)))))) (t := (t : Int)) (v := (tourI A t) 12 (t : Int)) ([]) rfl htj (by decide) rfl dX5_pass_199 ?_
                      have b24 := hBt 12 (t : Int)
                      refine tw_aload X dX5_pass_200 0 rfl ?_
                      refine tw_iconst X dX5_pass_202 ?_
                      refine sr_ldR X (g := (ups g1 ((t : Int)) (endF (tourI A t) (toward (tourI A t) (tourI A t 7 (t : Int)) (tourI A t 11 (t : Int))) (tourI A t 7 (t : Int))))) (M := (up (up (up (tourI A t) 7 ((t : Int)) (-1)) 8 ((t : Int)) (toward (tourI A t) (tourI A t 7 (t : Int)) (tourI A t 11 (t : Int)))) 10 ((t : Int)) (len (tourI A t) (toward (tourI A t) (tourI A t 7 (t : Int)) (tourI A t 11 (t : Int)))))) (r := toward (tourI A t) (tourI A t 7 (t : Int)) (tourI A t 11 (t : Int))) (v := (tourI A t) 3 (toward (tourI A t) (tourI A t 7 (t : Int)) (tourI A t 11 (t : Int)))) ([]) rfl hrj (by decide) rfl dX5_pass_203 ?_
                      have b25 := hBt 3 ((toward (tourI A t) (tourI A t 7 (t : Int)) (tourI A t 11 (t : Int))))
                      refine tw_callS X (As := [.int (enc ((tourI A t) 12 (t : Int))), .int (enc ((tourI A t) 3 (toward (tourI A t) (tourI A t 7 (t : Int)) (tourI A t 11 (t : Int)))))]) (st := [.int (enc (3)), .ref (tt ((t : Int)).toNat)]) sw_X5_39 (m_X5_mixed ((tourI A t) 12 (t : Int)) ((tourI A t) 3 (toward (tourI A t) (tourI A t 7 (t : Int)) (tourI A t 11 (t : Int)))) (by omega) hwd) ([]) (wS G cy q rr tt (up (up (up (tourI A t) 7 ((t : Int)) (-1)) 8 ((t : Int)) (toward (tourI A t) (tourI A t 7 (t : Int)) (tourI A t 11 (t : Int)))) 10 ((t : Int)) (len (tourI A t) (toward (tourI A t) (tourI A t 7 (t : Int)) (tourI A t 11 (t : Int))))) (ups g1 ((t : Int)) (endF (tourI A t) (toward (tourI A t) (tourI A t 7 (t : Int)) (tourI A t 11 (t : Int))) (tourI A t 7 (t : Int))))) rfl rfl rfl ⟨rfl, rfl, Nat.le_of_ble_eq_true rfl, Nat.le_of_ble_eq_true rfl⟩ ⟨(show 2 * t + 2 + 0 ≤ 24 by omega), (show 20 * t + 20 + 0 ≤ 240 by omega)⟩ (Nat.le_of_ble_eq_true rfl) dX5_pass_204 (fun v w1 hp => ?_)
                      obtain ⟨rfl, rfl⟩ := hp
                      refine Teq (ws' := wS G cy q rr tt (up (up (up (tourI A t) 7 ((t : Int)) (-1)) 8 ((t : Int)) (toward (tourI A t) (tourI A t 7 (t : Int)) (tourI A t 11 (t : Int)))) 10 ((t : Int)) (len (tourI A t) (toward (tourI A t) (tourI A t 7 (t : Int)) (tourI A t 11 (t : Int))))) (ups g1 ((t : Int)) (endF (tourI A t) (toward (tourI A t) (tourI A t 7 (t : Int)) (tourI A t 11 (t : Int))) (tourI A t 7 (t : Int))))) (lv' := [(6, .ref (rr (toward (tourI A t) (tourI A t 7 (t : Int)) (tourI A t 11 (t : Int))).toNat)), (5, .int (enc (toward (tourI A t) (tourI A t 7 (t : Int)) (tourI A t 11 (t : Int))))), (4, .ref (tt ((t : Int)).toNat)), (3, .int (enc ((t : Int)))), (2, .int (enc (M 17 0))), (1, .ref (q 2)), (0, .ref (q 0))]) (st' := [.int (enc (mixD ((tourI A t) 12 (t : Int)) ((tourI A t) 3 (toward (tourI A t) (tourI A t 7 (t : Int)) (tourI A t 11 (t : Int)))))), .int (enc (3)), .ref (tt ((t : Int)).toNat)]) rfl rfl rfl ?_
                      refine sr_stT X (g := (ups g1 ((t : Int)) (endF (tourI A t) (toward (tourI A t) (tourI A t 7 (t : Int)) (tourI A t 11 (t : Int))) (tourI A t 7 (t : Int))))) (M := (up (up (up (tourI A t) 7 ((t : Int)) (-1)) 8 ((t : Int)) (toward (tourI A t) (tourI A t 7 (t : Int)) (tourI A t 11 (t : Int)))) 10 ((t : Int)) (len (tourI A t) (toward (tourI A t) (tourI A t 7 (t : Int)) (tourI A t 11 (t : Int)))))) (t := (t : Int)) (v := mixD ((tourI A t) 12 (t : Int)) ((tourI A t) 3 (toward (tourI A t) (tourI A t 7 (t : Int)) (tourI A t 11 (t : Int))))) (ws' := wS G cy q rr tt (up (up (up (up (tourI A t) 7 ((t : Int)) (-1)) 8 ((t : Int)) (toward (tourI A t) (tourI A t 7 (t : Int)) (tourI A t 11 (t : Int)))) 10 ((t : Int)) (len (tourI A t) (toward (tourI A t) (tourI A t 7 (t : Int)) (tourI A t 11 (t : Int))))) 12 ((t : Int)) (mixD ((tourI A t) 12 (t : Int)) ((tourI A t) 3 (toward (tourI A t) (tourI A t 7 (t : Int)) (tourI A t 11 (t : Int)))))) (ups g1 ((t : Int)) (endF (tourI A t) (toward (tourI A t) (tourI A t 7 (t : Int)) (tourI A t 11 (t : Int))) (tourI A t 7 (t : Int))))) ([]) rfl htj (by decide) rfl (by decide) rfl dX5_pass_207 ?_
                      refine tw_aload X dX5_pass_208 0 rfl ?_
                      refine tw_iconst X dX5_pass_210 ?_
                      refine tw_dup2 X dX5_pass_211 rfl rfl ?_
                      refine sr_ldR X (g := (ups g1 ((t : Int)) (endF (tourI A t) (toward (tourI A t) (tourI A t 7 (t : Int)) (tourI A t 11 (t : Int))) (tourI A t 7 (t : Int))))) (M := (up (up (up (up (tourI A t) 7 ((t : Int)) (-1)) 8 ((t : Int)) (toward (tourI A t) (tourI A t 7 (t : Int)) (tourI A t 11 (t : Int)))) 10 ((t : Int)) (len (tourI A t) (toward (tourI A t) (tourI A t 7 (t : Int)) (tourI A t 11 (t : Int))))) 12 ((t : Int)) (mixD ((tourI A t) 12 (t : Int)) ((tourI A t) 3 (toward (tourI A t) (tourI A t 7 (t : Int)) (tourI A t 11 (t : Int))))))) (r := toward (tourI A t) (tourI A t 7 (t : Int)) (tourI A t 11 (t : Int))) (v := (tourI A t) 4 (toward (tourI A t) (tourI A t 7 (t : Int)) (tourI A t 11 (t : Int)))) ([]) rfl hrj (by decide) rfl dX5_pass_212 ?_
                      have b26 := hBt 4 ((toward (tourI A t) (tourI A t 7 (t : Int)) (tourI A t 11 (t : Int))))
                      refine tw_iconst X dX5_pass_213 ?_
                      refine tw_iadd (z := ((tourI A t) 4 (toward (tourI A t) (tourI A t 7 (t : Int)) (tourI A t 11 (t : Int)))) + 1) X dX5_pass_214 rfl ?_
                      refine sr_stR X (g := (ups g1 ((t : Int)) (endF (tourI A t) (toward (tourI A t) (tourI A t 7 (t : Int)) (tourI A t 11 (t : Int))) (tourI A t 7 (t : Int))))) (M := (up (up (up (up (tourI A t) 7 ((t : Int)) (-1)) 8 ((t : Int)) (toward (tourI A t) (tourI A t 7 (t : Int)) (tourI A t 11 (t : Int)))) 10 ((t : Int)) (len (tourI A t) (toward (tourI A t) (tourI A t 7 (t : Int)) (tourI A t 11 (t : Int))))) 12 ((t : Int)) (mixD ((tourI A t) 12 (t : Int)) ((tourI A t) 3 (toward (tourI A t) (tourI A t 7 (t : Int)) (tourI A t 11 (t : Int))))))) (r := toward (tourI A t) (tourI A t 7 (t : Int)) (tourI A t 11 (t : Int))) (v := ((tourI A t) 4 (toward (tourI A t) (tourI A t 7 (t : Int)) (tourI A t 11 (t : Int)))) + 1) (ws' := wS G cy q rr tt (up (up (up (up (up (tourI A t) 7 ((t : Int)) (-1)) 8 ((t : Int)) (toward (tourI A t) (tourI A t 7 (t : Int)) (tourI A t 11 (t : Int)))) 10 ((t : Int)) (len (tourI A t) (toward (tourI A t) (tourI A t 7 (t : Int)) (tourI A t 11 (t : Int))))) 12 ((t : Int)) (mixD ((tourI A t) 12 (t : Int)) ((tourI A t) 3 (toward (tourI A t) (tourI A t 7 (t : Int)) (tourI A t 11 (t : Int)))))) 4 (toward (tourI A t) (tourI A t 7 (t : Int)) (tourI A t 11 (t : Int))) (((tourI A t) 4 (toward (tourI A t) (tourI A t 7 (t : Int)) (tourI A t 11 (t : Int)))) + 1)) (ups g1 ((t : Int)) (endF (tourI A t) (toward (tourI A t) (tourI A t 7 (t : Int)) (tourI A t 11 (t : Int))) (tourI A t 7 (t : Int))))) ([]) rfl hrj (by decide) rfl (by decide) rfl dX5_pass_215 ?_
                      have hO : (outT (tourI A t) (t : Int)) = goR (tourI A t) (t : Int) (toward (tourI A t) (tourI A t 7 (t : Int)) (tourI A t 11 (t : Int))) := outT_go (by omega) c131
                      refine Tws (ws' := wS G cy q rr tt (outT (tourI A t) (t : Int)) (ups g1 ((t : Int)) (endF (tourI A t) (toward (tourI A t) (tourI A t 7 (t : Int)) (tourI A t 11 (t : Int))) (tourI A t 7 (t : Int))))) (by rw [hO]; exact (wS_congr (fun k h9 h18 => goR_sim _ _ _ h9) (fun _ _ _ => rfl)).symm) ?_
                      have o8 : 0 ≤ (outT (tourI A t) (t : Int)) 8 (t : Int) := by rw [hO, goR_eq, if_neg (by omega), if_neg (by omega), if_neg (by omega), if_neg (by omega), if_pos ⟨rfl, rfl⟩]; exact c131
                      have o9 : endF (tourI A t) (toward (tourI A t) (tourI A t 7 (t : Int)) (tourI A t 11 (t : Int))) (tourI A t 7 (t : Int)) = (outT (tourI A t) (t : Int)) 9 (t : Int) := by rw [hO, goR_eq, if_neg (by omega), if_neg (by omega), if_neg (by omega), if_pos ⟨rfl, rfl⟩]
                      have o9g : (ups g1 ((t : Int)) (endF (tourI A t) (toward (tourI A t) (tourI A t 7 (t : Int)) (tourI A t 11 (t : Int))) (tourI A t 7 (t : Int)))) (t : Int) = (outT (tourI A t) (t : Int)) 9 (t : Int) := by rw [ups_same]; exact o9
                      have og : ∀ t9 : Int, t9 ≠ (t : Int) → (ups g1 ((t : Int)) (endF (tourI A t) (toward (tourI A t) (tourI A t 7 (t : Int)) (tourI A t 11 (t : Int))) (tourI A t 7 (t : Int)))) t9 = g1 t9 := fun t9 h => ups_ne _ h
                      have hFo := hFt.k_outT (t := (t : Int)) (by omega) (by omega)
                      have hBo := hFo.bd (by omega)
                      have p17 : (outT (tourI A t) (t : Int)) 17 0 = M 17 0 := by rw [outT_fix (k := 17) _ _ (by omega)]; exact e17
                      have hto2 : 0 ≤ (t : Int) ∧ (t : Int) < (outT (tourI A t) (t : Int)) 17 0 := by omega
                      have p20 : (outT (tourI A t) (t : Int)) 20 0 = tourI A t 20 0 := by rw [outT_fix (k := 20) _ _ (by omega)]
                      have p13 : (outT (tourI A t) (t : Int)) 13 (t : Int) = tourI A t 13 (t : Int) := by rw [outT_fix (k := 13) _ _ (by omega)]
                      have h15n : ¬ 0 ≤ tourI A t 15 (t : Int) := by omega
                      have bo10 := hBo 10 (t : Int)
                      have bo9 := hBo 9 (t : Int)
                      have bo11 := hBo 11 (t : Int)
                      have bo20 := hBo 20 0
                      refine tw_aload X dX5_pass_216 2 rfl ?_
                      refine tw_iconst X dX5_pass_218 ?_
                      refine tw_dup2 X dX5_pass_219 rfl rfl ?_
                      refine sr_ldT X (g := (ups g1 ((t : Int)) (endF (tourI A t) (toward (tourI A t) (tourI A t 7 (t : Int)) (tourI A t 11 (t : Int))) (tourI A t 7 (t : Int))))) (M := (outT (tourI A t) (t : Int))) (t := (t : Int)) (v := (outT (tourI A t) (t : Int)) 10 (t : Int)) ([]) rfl hto2 (by decide) rfl dX5_pass_220 ?_
                      have b27 := hBo 10 (t : Int)
                      refine tw_iconst X dX5_pass_221 ?_
                      refine tw_isub (z := ((outT (tourI A t) (t : Int)) 10 (t : Int)) - 1) X dX5_pass_222 rfl ?_
                      refine sr_stT X (g := (ups g1 ((t : Int)) (endF (tourI A t) (toward (tourI A t) (tourI A t 7 (t : Int)) (tourI A t 11 (t : Int))) (tourI A t 7 (t : Int))))) (M := (outT (tourI A t) (t : Int))) (t := (t : Int)) (v := ((outT (tourI A t) (t : Int)) 10 (t : Int)) - 1) (ws' := wS G cy q rr tt (up (outT (tourI A t) (t : Int)) 10 ((t : Int)) (((outT (tourI A t) (t : Int)) 10 (t : Int)) - 1)) (ups g1 ((t : Int)) (endF (tourI A t) (toward (tourI A t) (tourI A t 7 (t : Int)) (tourI A t 11 (t : Int))) (tourI A t 7 (t : Int))))) ([]) rfl hto2 (by decide) rfl (by decide) rfl dX5_pass_223 ?_
                      refine tw_aload X dX5_pass_224 2 rfl ?_
                      refine tw_iconst X dX5_pass_226 ?_
                      refine sr_ldT X (g := (ups g1 ((t : Int)) (endF (tourI A t) (toward (tourI A t) (tourI A t 7 (t : Int)) (tourI A t 11 (t : Int))) (tourI A t 7 (t : Int))))) (M := (up (outT (tourI A t) (t : Int)) 10 ((t : Int)) (((outT (tourI A t) (t : Int)) 10 (t : Int)) - 1))) (t := (t : Int)) (v := ((outT (tourI A t) (t : Int)) 10 (t : Int)) - 1) ([]) rfl hto2 (by decide) (up_same (outT (tourI A t) (t : Int)) 10 ((t : Int)) (((outT (tourI A t) (t : Int)) 10 (t : Int)) - 1)) dX5_pass_227 ?_
                      refine tw_if_le (tgt := 234) X (In_of (by omega) (by omega)) dX5_pass_228 (by decide) (fun c228 => ?_) (fun c228 => ?_)
                      · skip
                        refine tw_aload X dX5_pass_234 2 rfl ?_
                        refine tw_iconst X dX5_pass_236 ?_
                        refine tw_aload X dX5_pass_237 2 rfl ?_
                        refine tw_bipush X dX5_pass_239 (by decide) ?_
                        refine sr_ldT X (g := (ups g1 ((t : Int)) (endF (tourI A t) (toward (tourI A t) (tourI A t 7 (t : Int)) (tourI A t 11 (t : Int))) (tourI A t 7 (t : Int))))) (M := (up (outT (tourI A t) (t : Int)) 10 ((t : Int)) (((outT (tourI A t) (t : Int)) 10 (t : Int)) - 1))) (t := (t : Int)) (v := endF (tourI A t) (toward (tourI A t) (tourI A t 7 (t : Int)) (tourI A t 11 (t : Int))) (tourI A t 7 (t : Int))) ([]) rfl hto2 (by decide) (ups_same _ _ _) dX5_pass_241 ?_
                        refine Tst (st' := [.int (enc ((outT (tourI A t) (t : Int)) 9 (t : Int))), .int (enc (0)), .ref (tt ((t : Int)).toNat)]) (by rw [o9]) ?_
                        have b28 := hBo 9 (t : Int)
                        refine sr_stT X (g := (ups g1 ((t : Int)) (endF (tourI A t) (toward (tourI A t) (tourI A t 7 (t : Int)) (tourI A t 11 (t : Int))) (tourI A t 7 (t : Int))))) (M := (up (outT (tourI A t) (t : Int)) 10 ((t : Int)) (((outT (tourI A t) (t : Int)) 10 (t : Int)) - 1))) (t := (t : Int)) (v := (outT (tourI A t) (t : Int)) 9 (t : Int)) (ws' := wS G cy q rr tt (up (up (outT (tourI A t) (t : Int)) 10 ((t : Int)) (((outT (tourI A t) (t : Int)) 10 (t : Int)) - 1)) 7 ((t : Int)) ((outT (tourI A t) (t : Int)) 9 (t : Int))) (ups g1 ((t : Int)) (endF (tourI A t) (toward (tourI A t) (tourI A t 7 (t : Int)) (tourI A t 11 (t : Int))) (tourI A t 7 (t : Int))))) ([]) rfl hto2 (by decide) rfl (by decide) rfl dX5_pass_242 ?_
                        refine tw_aload X dX5_pass_243 2 rfl ?_
                        refine tw_iconst X dX5_pass_245 ?_
                        refine tw_iconst X dX5_pass_246 ?_
                        refine sr_stT X (g := (ups g1 ((t : Int)) (endF (tourI A t) (toward (tourI A t) (tourI A t 7 (t : Int)) (tourI A t 11 (t : Int))) (tourI A t 7 (t : Int))))) (M := (up (up (outT (tourI A t) (t : Int)) 10 ((t : Int)) (((outT (tourI A t) (t : Int)) 10 (t : Int)) - 1)) 7 ((t : Int)) ((outT (tourI A t) (t : Int)) 9 (t : Int)))) (t := (t : Int)) (v := -1) (ws' := wS G cy q rr tt (up (up (up (outT (tourI A t) (t : Int)) 10 ((t : Int)) (((outT (tourI A t) (t : Int)) 10 (t : Int)) - 1)) 7 ((t : Int)) ((outT (tourI A t) (t : Int)) 9 (t : Int))) 8 ((t : Int)) (-1)) (ups g1 ((t : Int)) (endF (tourI A t) (toward (tourI A t) (tourI A t 7 (t : Int)) (tourI A t 11 (t : Int))) (tourI A t 7 (t : Int))))) ([]) rfl hto2 (by decide) rfl (by decide) rfl dX5_pass_247 ?_
                        refine tw_aload X dX5_pass_248 2 rfl ?_
                        refine tw_iconst X dX5_pass_250 ?_
                        refine sr_ldT X (g := (ups g1 ((t : Int)) (endF (tourI A t) (toward (tourI A t) (tourI A t 7 (t : Int)) (tourI A t 11 (t : Int))) (tourI A t 7 (t : Int))))) (M := (up (up (up (outT (tourI A t) (t : Int)) 10 ((t : Int)) (((outT (tourI A t) (t : Int)) 10 (t : Int)) - 1)) 7 ((t : Int)) ((outT (tourI A t) (t : Int)) 9 (t : Int))) 8 ((t : Int)) (-1))) (t := (t : Int)) (v := (outT (tourI A t) (t : Int)) 9 (t : Int)) ([]) rfl hto2 (by decide) (up_same (up (outT (tourI A t) (t : Int)) 10 ((t : Int)) (((outT (tourI A t) (t : Int)) 10 (t : Int)) - 1)) 7 ((t : Int)) ((outT (tourI A t) (t : Int)) 9 (t : Int))) dX5_pass_251 ?_
                        have b29 := hBo 9 (t : Int)
                        refine tw_aload X dX5_pass_252 2 rfl ?_
                        refine tw_iconst X dX5_pass_254 ?_
                        refine sr_ldT X (g := (ups g1 ((t : Int)) (endF (tourI A t) (toward (tourI A t) (tourI A t 7 (t : Int)) (tourI A t 11 (t : Int))) (tourI A t 7 (t : Int))))) (M := (up (up (up (outT (tourI A t) (t : Int)) 10 ((t : Int)) (((outT (tourI A t) (t : Int)) 10 (t : Int)) - 1)) 7 ((t : Int)) ((outT (tourI A t) (t : Int)) 9 (t : Int))) 8 ((t : Int)) (-1))) (t := (t : Int)) (v := (outT (tourI A t) (t : Int)) 11 (t : Int)) ([]) rfl hto2 (by decide) rfl dX5_pass_255 ?_
                        have b30 := hBo 11 (t : Int)
                        refine tw_icmp_ne (tgt := 270) X (In_of (by omega) (by omega)) (In_of (by omega) (by omega)) dX5_pass_256 (by decide) (fun c256 => ?_) (fun c256 => ?_)
                        · skip
                          have eM : tourI A (t + 1) = up (up (up (outT (tourI A t) (t : Int)) 10 (t : Int) ((outT (tourI A t) (t : Int)) 10 (t : Int) - 1)) 7 (t : Int) ((outT (tourI A t) (t : Int)) 9 (t : Int))) 8 (t : Int) (-1) := by rw [tourI_s, tour1_go h15n, walkT_2 o8 c228 c256]
                          have hWS : wS G cy q rr tt (up (up (up (outT (tourI A t) (t : Int)) 10 ((t : Int)) (((outT (tourI A t) (t : Int)) 10 (t : Int)) - 1)) 7 ((t : Int)) ((outT (tourI A t) (t : Int)) 9 (t : Int))) 8 ((t : Int)) (-1)) (ups g1 ((t : Int)) (endF (tourI A t) (toward (tourI A t) (tourI A t 7 (t : Int)) (tourI A t 11 (t : Int))) (tourI A t 7 (t : Int)))) = wS G cy q rr tt (tourI A (t + 1)) (ups g1 ((t : Int)) (endF (tourI A t) (toward (tourI A t) (tourI A t 7 (t : Int)) (tourI A t 11 (t : Int))) (tourI A t 7 (t : Int)))) := by rw [eM]
                          have hGn : GE (tourI A (t + 1)) (ups g1 ((t : Int)) (endF (tourI A t) (toward (tourI A t) (tourI A t 7 (t : Int)) (tourI A t 11 (t : Int))) (tourI A t 7 (t : Int)))) := by rw [tourI_s]; exact hG.tour og (fun z => absurd z (by rw [← tourI_s, eM]; show ¬ 0 ≤ up _ 8 (t : Int) (-1) 8 (t : Int); rw [up_same]; decide))
                          refine tw_iinc (q := 3) (x := (t : Int)) (y := (t : Int) + 1) (lv' := [(3, .int (enc ((t : Int) + 1))), (6, .ref (rr (toward (tourI A t) (tourI A t 7 (t : Int)) (tourI A t 11 (t : Int))).toNat)), (5, .int (enc (toward (tourI A t) (tourI A t 7 (t : Int)) (tourI A t 11 (t : Int))))), (4, .ref (tt ((t : Int)).toNat)), (2, .int (enc (M 17 0))), (1, .ref (q 2)), (0, .ref (q 0))]) X dX5_pass_270 rfl rfl (by decide) rfl ?_
                          refine tw_goto (tgt := 87) X dX5_pass_273 (by decide) ?_
                          refine Twiden (k' := 2 * (t + 1)) (n' := 20 * (t + 1)) (by omega) (by omega) ?_
                          refine Tsub (lv' := [(3, .int (enc ((t : Int) + 1))), (2, .int (enc (M 17 0))), (1, .ref (q 2)), (0, .ref (q 0))]) [0, 4, 5, 6] rfl ?_
                          refine Teq (ws' := wS G cy q rr tt (tourI A (t + 1)) ((ups g1 ((t : Int)) (endF (tourI A t) (toward (tourI A t) (tourI A t 7 (t : Int)) (tourI A t 11 (t : Int))) (tourI A t 7 (t : Int)))))) (lv' := [(3, .int (enc (((t + 1 : Nat) : Int)))), (2, .int (enc (M 17 0))), (1, .ref (q 2)), (0, .ref (q 0))]) (st' := []) (hWS) (lvc (i_succ t) (lvk (lvk (lvk (rfl))))) rfl (ih87 (t + 1) ((ups g1 ((t : Int)) (endF (tourI A t) (toward (tourI A t) (tourI A t 7 (t : Int)) (tourI A t 11 (t : Int))) (tourI A t 7 (t : Int))))) (by omega) (by omega) (hGn))
                        · skip
                          refine tw_aload X dX5_pass_259 2 rfl ?_
                          refine tw_bipush X dX5_pass_261 (by decide) ?_
                          refine tw_aload_n X dX5_pass_263 6 rfl rfl ?_
                          refine gf_X5_42 X (v := .int (enc ((outT (tourI A t) (t : Int)) 20 0))) 0 rfl rfl dX5_pass_264 ?_
                          have b31 := hBo 20 0
                          refine tw_iconst X dX5_pass_267 ?_
                          refine tw_iadd (z := ((outT (tourI A t) (t : Int)) 20 0) + 1) X dX5_pass_268 rfl ?_
                          refine sr_st7 X (g := (ups g1 ((t : Int)) (endF (tourI A t) (toward (tourI A t) (tourI A t 7 (t : Int)) (tourI A t 11 (t : Int))) (tourI A t 7 (t : Int))))) (M := (up (up (up (outT (tourI A t) (t : Int)) 10 ((t : Int)) (((outT (tourI A t) (t : Int)) 10 (t : Int)) - 1)) 7 ((t : Int)) ((outT (tourI A t) (t : Int)) 9 (t : Int))) 8 ((t : Int)) (-1))) (t := (t : Int)) (v := ((outT (tourI A t) (t : Int)) 20 0) + 1) (ws' := wS G cy q rr tt (up (up (up (up (outT (tourI A t) (t : Int)) 10 ((t : Int)) (((outT (tourI A t) (t : Int)) 10 (t : Int)) - 1)) 7 ((t : Int)) ((outT (tourI A t) (t : Int)) 9 (t : Int))) 8 ((t : Int)) (-1)) 15 ((t : Int)) (((outT (tourI A t) (t : Int)) 20 0) + 1 - (outT (tourI A t) (t : Int)) 13 (t : Int))) (ups g1 ((t : Int)) (endF (tourI A t) (toward (tourI A t) (tourI A t 7 (t : Int)) (tourI A t 11 (t : Int))) (tourI A t 7 (t : Int))))) ([]) rfl hto2 (show (outT (tourI A t) (t : Int)) 13 (t : Int) ≤ (outT (tourI A t) (t : Int)) 20 0 + 1 by omega) rfl dX5_pass_269 ?_
                          have eM : tourI A (t + 1) = upc (up (up (up (up (outT (tourI A t) (t : Int)) 10 (t : Int) ((outT (tourI A t) (t : Int)) 10 (t : Int) - 1)) 7 (t : Int) ((outT (tourI A t) (t : Int)) 9 (t : Int))) 8 (t : Int) (-1)) 15 (t : Int) ((outT (tourI A t) (t : Int)) 20 0 + 1 - (outT (tourI A t) (t : Int)) 13 (t : Int))) 18 ((outT (tourI A t) (t : Int)) 18 0 + 1) := by rw [tourI_s, tour1_go h15n, walkT_3 o8 c228 c256, p20]
                          have hWS : wS G cy q rr tt (up (up (up (up (outT (tourI A t) (t : Int)) 10 ((t : Int)) (((outT (tourI A t) (t : Int)) 10 (t : Int)) - 1)) 7 ((t : Int)) ((outT (tourI A t) (t : Int)) 9 (t : Int))) 8 ((t : Int)) (-1)) 15 ((t : Int)) (((outT (tourI A t) (t : Int)) 20 0) + 1 - (outT (tourI A t) (t : Int)) 13 (t : Int))) (ups g1 ((t : Int)) (endF (tourI A t) (toward (tourI A t) (tourI A t 7 (t : Int)) (tourI A t 11 (t : Int))) (tourI A t 7 (t : Int)))) = wS G cy q rr tt (tourI A (t + 1)) (ups g1 ((t : Int)) (endF (tourI A t) (toward (tourI A t) (tourI A t 7 (t : Int)) (tourI A t 11 (t : Int))) (tourI A t 7 (t : Int)))) := by rw [eM]; exact (wS_congr (fun k h9 h18 => upc_n _ h18 _) (fun _ _ _ => rfl)).symm
                          have hGn : GE (tourI A (t + 1)) (ups g1 ((t : Int)) (endF (tourI A t) (toward (tourI A t) (tourI A t 7 (t : Int)) (tourI A t 11 (t : Int))) (tourI A t 7 (t : Int)))) := by rw [tourI_s]; exact hG.tour og (fun z => absurd z (by rw [← tourI_s, eM]; show ¬ 0 ≤ up _ 8 (t : Int) (-1) 8 (t : Int); rw [up_same]; decide))
                          refine tw_iinc (q := 3) (x := (t : Int)) (y := (t : Int) + 1) (lv' := [(3, .int (enc ((t : Int) + 1))), (6, .ref (rr (toward (tourI A t) (tourI A t 7 (t : Int)) (tourI A t 11 (t : Int))).toNat)), (5, .int (enc (toward (tourI A t) (tourI A t 7 (t : Int)) (tourI A t 11 (t : Int))))), (4, .ref (tt ((t : Int)).toNat)), (2, .int (enc (M 17 0))), (1, .ref (q 2)), (0, .ref (q 0))]) X dX5_pass_270 rfl rfl (by decide) rfl ?_
                          refine tw_goto (tgt := 87) X dX5_pass_273 (by decide) ?_
                          refine Twiden (k' := 2 * (t + 1)) (n' := 20 * (t + 1)) (by omega) (by omega) ?_
                          refine Tsub (lv' := [(3, .int (enc ((t : Int) + 1))), (2, .int (enc (M 17 0))), (1, .ref (q 2)), (0, .ref (q 0))]) [0, 4, 5, 6] rfl ?_
                          refine Teq (ws' := wS G cy q rr tt (tourI A (t + 1)) ((ups g1 ((t : Int)) (endF (tourI A t) (toward (tourI A t) (tourI A t 7 (t : Int)) (tourI A t 11 (t : Int))) (tourI A t 7 (t : Int)))))) (lv' := [(3, .int (enc (((t + 1 : Nat) : Int)))), (2, .int (enc (M 17 0))), (1, .ref (q 2)), (0, .ref (q 0))]) (st' := []) (hWS) (lvc (i_succ t) (lvk (lvk (lvk (rfl))))) rfl (ih87 (t + 1) ((ups g1 ((t : Int)) (endF (tourI A t) (toward (tourI A t) (tourI A t 7 (t : Int)) (tourI A t 11 (t : Int))) (tourI A t 7 (t : Int))))) (by omega) (by omega) (hGn))
                      · skip
                        have eM : tourI A (t + 1) = up (outT (tourI A t) (t : Int)) 10 (t : Int) ((outT (tourI A t) (t : Int)) 10 (t : Int) - 1) := by rw [tourI_s, tour1_go h15n, walkT_1 o8 c228]
                        refine tw_goto (tgt := 270) X dX5_pass_231 (by decide) ?_
                        have hWS : wS G cy q rr tt (up (outT (tourI A t) (t : Int)) 10 ((t : Int)) (((outT (tourI A t) (t : Int)) 10 (t : Int)) - 1)) (ups g1 ((t : Int)) (endF (tourI A t) (toward (tourI A t) (tourI A t 7 (t : Int)) (tourI A t 11 (t : Int))) (tourI A t 7 (t : Int)))) = wS G cy q rr tt (tourI A (t + 1)) (ups g1 ((t : Int)) (endF (tourI A t) (toward (tourI A t) (tourI A t 7 (t : Int)) (tourI A t 11 (t : Int))) (tourI A t 7 (t : Int)))) := by rw [eM]
                        have hGn : GE (tourI A (t + 1)) (ups g1 ((t : Int)) (endF (tourI A t) (toward (tourI A t) (tourI A t 7 (t : Int)) (tourI A t 11 (t : Int))) (tourI A t 7 (t : Int)))) := by rw [tourI_s]; exact hG.tour og (fun _ => by rw [← tourI_s, eM]; exact o9g)
                        refine tw_iinc (q := 3) (x := (t : Int)) (y := (t : Int) + 1) (lv' := [(3, .int (enc ((t : Int) + 1))), (6, .ref (rr (toward (tourI A t) (tourI A t 7 (t : Int)) (tourI A t 11 (t : Int))).toNat)), (5, .int (enc (toward (tourI A t) (tourI A t 7 (t : Int)) (tourI A t 11 (t : Int))))), (4, .ref (tt ((t : Int)).toNat)), (2, .int (enc (M 17 0))), (1, .ref (q 2)), (0, .ref (q 0))]) X dX5_pass_270 rfl rfl (by decide) rfl ?_
                        refine tw_goto (tgt := 87) X dX5_pass_273 (by decide) ?_
                        refine Twiden (k' := 2 * (t + 1)) (n' := 20 * (t + 1)) (by omega) (by omega) ?_
                        refine Tsub (lv' := [(3, .int (enc ((t : Int) + 1))), (2, .int (enc (M 17 0))), (1, .ref (q 2)), (0, .ref (q 0))]) [0, 4, 5, 6] rfl ?_
                        refine Teq (ws' := wS G cy q rr tt (tourI A (t + 1)) ((ups g1 ((t : Int)) (endF (tourI A t) (toward (tourI A t) (tourI A t 7 (t : Int)) (tourI A t 11 (t : Int))) (tourI A t 7 (t : Int)))))) (lv' := [(3, .int (enc (((t + 1 : Nat) : Int)))), (2, .int (enc (M 17 0))), (1, .ref (q 2)), (0, .ref (q 0))]) (st' := []) (hWS) (lvc (i_succ t) (lvk (lvk (lvk (rfl))))) rfl (ih87 (t + 1) ((ups g1 ((t : Int)) (endF (tourI A t) (toward (tourI A t) (tourI A t 7 (t : Int)) (tourI A t 11 (t : Int))) (tourI A t 7 (t : Int))))) (by omega) (by omega) (hGn))
                  · skip
                    have eM : tourI A (t + 1) = tourI A t := by rw [tourI_s, tour1_stay (by omega) (by omega) (by omega) c131]
                    refine tw_goto (tgt := 270) X dX5_pass_134 (by decide) ?_
                    have hWS : wS G cy q rr tt (tourI A t) g1 = wS G cy q rr tt (tourI A (t + 1)) g1 := by rw [eM]
                    have hGn : GE (tourI A (t + 1)) g1 := by rw [eM]; exact hG
                    refine tw_iinc (q := 2) (x := (t : Int)) (y := (t : Int) + 1) (lv' := [(3, .int (enc ((t : Int) + 1))), (5, .int (enc (toward (tourI A t) (tourI A t 7 (t : Int)) (tourI A t 11 (t : Int))))), (4, .ref (tt ((t : Int)).toNat)), (2, .int (enc (M 17 0))), (1, .ref (q 2)), (0, .ref (q 0))]) X dX5_pass_270 rfl rfl (by decide) rfl ?_
                    refine tw_goto (tgt := 87) X dX5_pass_273 (by decide) ?_
                    refine Twiden (k' := 2 * (t + 1)) (n' := 20 * (t + 1)) (by omega) (by omega) ?_
                    refine Tsub (lv' := [(3, .int (enc ((t : Int) + 1))), (2, .int (enc (M 17 0))), (1, .ref (q 2)), (0, .ref (q 0))]) [0, 3, 4, 5] rfl ?_
                    refine Teq (ws' := wS G cy q rr tt (tourI A (t + 1)) (g1)) (lv' := [(3, .int (enc (((t + 1 : Nat) : Int)))), (2, .int (enc (M 17 0))), (1, .ref (q 2)), (0, .ref (q 0))]) (st' := []) (hWS) (lvc (i_succ t) (lvk (lvk (lvk (rfl))))) rfl (ih87 (t + 1) (g1) (by omega) (by omega) (hGn))
              · skip
                have eM : tourI A (t + 1) = tourI A t := by rw [tourI_s, tour1_in (by omega)]
                refine tw_goto (tgt := 270) X dX5_pass_105 (by decide) ?_
                have hWS : wS G cy q rr tt (tourI A t) g1 = wS G cy q rr tt (tourI A (t + 1)) g1 := by rw [eM]
                have hGn : GE (tourI A (t + 1)) g1 := by rw [eM]; exact hG
                refine tw_iinc (q := 1) (x := (t : Int)) (y := (t : Int) + 1) (lv' := [(3, .int (enc ((t : Int) + 1))), (4, .ref (tt ((t : Int)).toNat)), (2, .int (enc (M 17 0))), (1, .ref (q 2)), (0, .ref (q 0))]) X dX5_pass_270 rfl rfl (by decide) rfl ?_
                refine tw_goto (tgt := 87) X dX5_pass_273 (by decide) ?_
                refine Twiden (k' := 2 * (t + 1)) (n' := 20 * (t + 1)) (by omega) (by omega) ?_
                refine Tsub (lv' := [(3, .int (enc ((t : Int) + 1))), (2, .int (enc (M 17 0))), (1, .ref (q 2)), (0, .ref (q 0))]) [0, 2, 3, 4] rfl ?_
                refine Teq (ws' := wS G cy q rr tt (tourI A (t + 1)) (g1)) (lv' := [(3, .int (enc (((t + 1 : Nat) : Int)))), (2, .int (enc (M 17 0))), (1, .ref (q 2)), (0, .ref (q 0))]) (st' := []) (hWS) (lvc (i_succ t) (lvk (lvk (lvk (rfl))))) rfl (ih87 (t + 1) (g1) (by omega) (by omega) (hGn))
        refine Twiden (k' := 2 * 0) (n' := 20 * 0) (by omega) (by omega) ?_
        refine Teq (ws' := wS G cy q rr tt (tourI A 0) (g)) (lv' := [(3, .int (enc (((0 : Nat) : Int)))), (2, .int (enc (M 17 0))), (1, .ref (q 2)), (0, .ref (q 0))]) (st' := []) (by rw [← ei, hAe]; rfl) (lvk (lvc (e17m) (lvk (lvk (rfl))))) rfl (L87 (M 17 0 + 1).toNat 0 (g) (by omega) (by omega) (hG0.congr a17 a8 a9))
      · skip
        have hri : 0 ≤ (i : Int) ∧ (i : Int) < mendI M i 16 0 := by omega
        refine tw_aload_n X dX5_pass_15 2 rfl rfl ?_
        refine tw_iload_n X dX5_pass_16 0 rfl rfl ?_
        refine sr_aaR X (g := g) (M := (mendI M i)) (r := (i : Int)) ([]) rfl hri (by omega) dX5_pass_17 ?_
        refine tw_astore (lv' := [(4, .ref (rr ((i : Int)).toNat)), (3, .int (enc ((i : Int)))), (2, .int (enc (M 16 0))), (1, .ref (q 1)), (0, .ref (q 0))]) X dX5_pass_18 (by decide) rfl ?_
        refine tw_aload X dX5_pass_20 0 rfl ?_
        refine tw_iconst X dX5_pass_22 ?_
        refine sr_ldR X (g := g) (M := (mendI M i)) (r := (i : Int)) (v := (mendI M i) 6 (i : Int)) ([]) rfl hri (by decide) rfl dX5_pass_23 ?_
        have b32 := hBi 6 (i : Int)
        refine tw_if_ne (tgt := 30) X (In_of (by omega) (by omega)) dX5_pass_24 (by decide) (fun c24 => ?_) (fun c24 => ?_)
        · skip
          refine tw_aload X dX5_pass_30 0 rfl ?_
          refine tw_iconst X dX5_pass_32 ?_
          refine tw_dup2 X dX5_pass_33 rfl rfl ?_
          refine sr_ldR X (g := g) (M := (mendI M i)) (r := (i : Int)) (v := (mendI M i) 6 (i : Int)) ([]) rfl hri (by decide) rfl dX5_pass_34 ?_
          have b33 := hBi 6 (i : Int)
          refine tw_iconst X dX5_pass_35 ?_
          refine tw_isub (z := ((mendI M i) 6 (i : Int)) - 1) X dX5_pass_36 rfl ?_
          refine sr_stR X (g := g) (M := (mendI M i)) (r := (i : Int)) (v := ((mendI M i) 6 (i : Int)) - 1) (ws' := wS G cy q rr tt (up (mendI M i) 6 ((i : Int)) (((mendI M i) 6 (i : Int)) - 1)) g) ([]) rfl hri (by decide) rfl (by decide) rfl dX5_pass_37 ?_
          refine tw_aload X dX5_pass_38 0 rfl ?_
          refine tw_iconst X dX5_pass_40 ?_
          refine sr_ldR X (g := g) (M := (up (mendI M i) 6 ((i : Int)) (((mendI M i) 6 (i : Int)) - 1))) (r := (i : Int)) (v := ((mendI M i) 6 (i : Int)) - 1) ([]) rfl hri (by decide) (up_same (mendI M i) 6 ((i : Int)) (((mendI M i) 6 (i : Int)) - 1)) dX5_pass_41 ?_
          refine tw_if_le (tgt := 48) X (In_of (by omega) (by omega)) dX5_pass_42 (by decide) (fun c42 => ?_) (fun c42 => ?_)
          · skip
            refine tw_aload X dX5_pass_48 0 rfl ?_
            refine tw_iconst X dX5_pass_50 ?_
            refine tw_iconst X dX5_pass_51 ?_
            refine sr_stR X (g := g) (M := (up (mendI M i) 6 ((i : Int)) (((mendI M i) 6 (i : Int)) - 1))) (r := (i : Int)) (v := 0) (ws' := wS G cy q rr tt (up (up (mendI M i) 6 ((i : Int)) (((mendI M i) 6 (i : Int)) - 1)) 4 ((i : Int)) (0)) g) ([]) rfl hri (by decide) rfl (by decide) rfl dX5_pass_52 ?_
            refine tw_aload X dX5_pass_53 0 rfl ?_
            refine tw_bipush X dX5_pass_55 (by decide) ?_
            refine sr_ldR X (g := g) (M := (up (up (mendI M i) 6 ((i : Int)) (((mendI M i) 6 (i : Int)) - 1)) 4 ((i : Int)) (0))) (r := (i : Int)) (v := (mendI M i) 5 (i : Int)) ([]) rfl hri (by decide) rfl dX5_pass_57 ?_
            have b34 := hBi 5 (i : Int)
            refine tw_iconst X dX5_pass_58 ?_
            refine tw_icmp_ge (tgt := 71) X (In_of (by omega) (by omega)) (In_of (by omega) (by omega)) dX5_pass_59 (by decide) (fun c59 => ?_) (fun c59 => ?_)
            · skip
              have eM : mendI M (i + 1) = up (up (mendI M i) 6 (i : Int) ((mendI M i) 6 (i : Int) - 1)) 4 (i : Int) 0 := by rw [mendI_s, mend1_opN (by omega) (by omega) c59]
              refine tw_iinc (q := 1) (x := (i : Int)) (y := (i : Int) + 1) (lv' := [(3, .int (enc ((i : Int) + 1))), (4, .ref (rr ((i : Int)).toNat)), (2, .int (enc (M 16 0))), (1, .ref (q 1)), (0, .ref (q 0))]) X dX5_pass_71 rfl rfl (by decide) rfl ?_
              refine tw_goto (tgt := 10) X dX5_pass_74 (by decide) ?_
              refine Tsub (lv' := [(3, .int (enc ((i : Int) + 1))), (2, .int (enc (M 16 0))), (1, .ref (q 1)), (0, .ref (q 0))]) [0, 2, 3, 4] rfl ?_
              refine Teq (ws' := wS G cy q rr tt (mendI M (i + 1)) g) (lv' := [(3, .int (enc (((i + 1 : Nat) : Int)))), (2, .int (enc (M 16 0))), (1, .ref (q 1)), (0, .ref (q 0))]) (st' := []) (congrArg (fun M9 => wS G cy q rr tt M9 g) eM.symm) (lvc (i_succ i) (lvk (lvk (lvk (rfl))))) rfl (ih10 (i + 1) (by omega) (by omega))
            · skip
              have eM : mendI M (i + 1) = up (up (up (mendI M i) 6 (i : Int) ((mendI M i) 6 (i : Int) - 1)) 4 (i : Int) 0) 5 (i : Int) ((mendI M i) 5 (i : Int) + 1) := by rw [mendI_s, mend1_opY (by omega) (by omega) c59]
              refine tw_aload X dX5_pass_62 0 rfl ?_
              refine tw_bipush X dX5_pass_64 (by decide) ?_
              refine tw_dup2 X dX5_pass_66 rfl rfl ?_
              refine sr_ldR X (g := g) (M := (up (up (mendI M i) 6 ((i : Int)) (((mendI M i) 6 (i : Int)) - 1)) 4 ((i : Int)) (0))) (r := (i : Int)) (v := (mendI M i) 5 (i : Int)) ([]) rfl hri (by decide) rfl dX5_pass_67 ?_
              have b35 := hBi 5 (i : Int)
              refine tw_iconst X dX5_pass_68 ?_
              refine tw_iadd (z := ((mendI M i) 5 (i : Int)) + 1) X dX5_pass_69 rfl ?_
              refine sr_stR X (g := g) (M := (up (up (mendI M i) 6 ((i : Int)) (((mendI M i) 6 (i : Int)) - 1)) 4 ((i : Int)) (0))) (r := (i : Int)) (v := ((mendI M i) 5 (i : Int)) + 1) (ws' := wS G cy q rr tt (up (up (up (mendI M i) 6 ((i : Int)) (((mendI M i) 6 (i : Int)) - 1)) 4 ((i : Int)) (0)) 5 ((i : Int)) (((mendI M i) 5 (i : Int)) + 1)) g) ([]) rfl hri (by decide) rfl (by decide) rfl dX5_pass_70 ?_
              refine tw_iinc (q := 1) (x := (i : Int)) (y := (i : Int) + 1) (lv' := [(3, .int (enc ((i : Int) + 1))), (4, .ref (rr ((i : Int)).toNat)), (2, .int (enc (M 16 0))), (1, .ref (q 1)), (0, .ref (q 0))]) X dX5_pass_71 rfl rfl (by decide) rfl ?_
              refine tw_goto (tgt := 10) X dX5_pass_74 (by decide) ?_
              refine Tsub (lv' := [(3, .int (enc ((i : Int) + 1))), (2, .int (enc (M 16 0))), (1, .ref (q 1)), (0, .ref (q 0))]) [0, 2, 3, 4] rfl ?_
              refine Teq (ws' := wS G cy q rr tt (mendI M (i + 1)) g) (lv' := [(3, .int (enc (((i + 1 : Nat) : Int)))), (2, .int (enc (M 16 0))), (1, .ref (q 1)), (0, .ref (q 0))]) (st' := []) (congrArg (fun M9 => wS G cy q rr tt M9 g) eM.symm) (lvc (i_succ i) (lvk (lvk (lvk (rfl))))) rfl (ih10 (i + 1) (by omega) (by omega))
          · skip
            have eM : mendI M (i + 1) = up (mendI M i) 6 (i : Int) ((mendI M i) 6 (i : Int) - 1) := by rw [mendI_s, mend1_dec (by omega) (by omega)]
            refine tw_goto (tgt := 71) X dX5_pass_45 (by decide) ?_
            refine tw_iinc (q := 1) (x := (i : Int)) (y := (i : Int) + 1) (lv' := [(3, .int (enc ((i : Int) + 1))), (4, .ref (rr ((i : Int)).toNat)), (2, .int (enc (M 16 0))), (1, .ref (q 1)), (0, .ref (q 0))]) X dX5_pass_71 rfl rfl (by decide) rfl ?_
            refine tw_goto (tgt := 10) X dX5_pass_74 (by decide) ?_
            refine Tsub (lv' := [(3, .int (enc ((i : Int) + 1))), (2, .int (enc (M 16 0))), (1, .ref (q 1)), (0, .ref (q 0))]) [0, 2, 3, 4] rfl ?_
            refine Teq (ws' := wS G cy q rr tt (mendI M (i + 1)) g) (lv' := [(3, .int (enc (((i + 1 : Nat) : Int)))), (2, .int (enc (M 16 0))), (1, .ref (q 1)), (0, .ref (q 0))]) (st' := []) (congrArg (fun M9 => wS G cy q rr tt M9 g) eM.symm) (lvc (i_succ i) (lvk (lvk (lvk (rfl))))) rfl (ih10 (i + 1) (by omega) (by omega))
        · skip
          have eM : mendI M (i + 1) = mendI M i := by rw [mendI_s, mend1_no (by omega)]
          refine tw_goto (tgt := 71) X dX5_pass_27 (by decide) ?_
          refine tw_iinc (q := 1) (x := (i : Int)) (y := (i : Int) + 1) (lv' := [(3, .int (enc ((i : Int) + 1))), (4, .ref (rr ((i : Int)).toNat)), (2, .int (enc (M 16 0))), (1, .ref (q 1)), (0, .ref (q 0))]) X dX5_pass_71 rfl rfl (by decide) rfl ?_
          refine tw_goto (tgt := 10) X dX5_pass_74 (by decide) ?_
          refine Tsub (lv' := [(3, .int (enc ((i : Int) + 1))), (2, .int (enc (M 16 0))), (1, .ref (q 1)), (0, .ref (q 0))]) [0, 2, 3, 4] rfl ?_
          refine Teq (ws' := wS G cy q rr tt (mendI M (i + 1)) g) (lv' := [(3, .int (enc (((i + 1 : Nat) : Int)))), (2, .int (enc (M 16 0))), (1, .ref (q 1)), (0, .ref (q 0))]) (st' := []) (congrArg (fun M9 => wS G cy q rr tt M9 g) eM.symm) (lvc (i_succ i) (lvk (lvk (lvk (rfl))))) rfl (ih10 (i + 1) (by omega) (by omega))
  refine Teq (ws' := wS G cy q rr tt (mendI M 0) g) (lv' := [(3, .int (enc (((0 : Nat) : Int)))), (2, .int (enc (M 16 0))), (1, .ref (q 1)), (0, .ref (q 0))]) (st' := []) (rfl) (rfl) rfl (L10 (M 16 0 + 1).toNat 0 (by omega) (by omega))
set_option maxRecDepth 100000 in
set_option maxHeartbeats 4000000 in
theorem m_X5_behind {G : va_G} {cy : ClassId} {q rr tt : Nat → Nat} (M : MT) (g : Int → Int) (B : Int) (hF : WF M B) (hB2 : B ≤ 600000) (h : Int) (hh : 1 ≤ h ∧ h ≤ 50) (hG0 : GE M g) : Ct G cy yX5_behind cX5_behind 4 (some .int) ({ frames := 4, cells := 1200, slots := 12000, locals := 104 } : Room) 1200 12000 [.ref (q 0), .int (enc (h))] (wS G cy q rr tt M g) (fun v w1 => v = some (.int (enc (cntIn (hoursM M h.toNat) (M 17 0).toNat - cntIn M (M 17 0).toNat))) ∧ ∃ g' : Int → Int, GE (hoursM M h.toNat) g' ∧ w1 = wS G cy q rr tt (hoursM M h.toNat) g') := by
  refine Ct.ofI (by decide) (Nat.le_of_ble_eq_true rfl) rfl rfl (fun _ _ _ => rfl) ?_
  intro c X ret
  have hB := hF.bd (by omega)
  obtain ⟨w0, w1, w2, w3, w4⟩ := hF.r
  have h17 := hF.2.2.2.2.2.1
  have h172 := hF.2.2.2.2.2.2.1
  have h20 := hF.2.2.2.2.2.2.2.1
  have hc0 := cntIn_rng M (M 17 0).toNat
  refine Tlv (lv' := [(0, .ref (q 0)), (1, .int (enc (h)))]) rfl ?_
  refine tw_aload_n X dX5_behind_0 0 rfl rfl ?_
  refine tw_callV X (As := []) (st := []) vw_X5_49 (m_X5_arrived (q := q) (rr := rr) (tt := tt) M g B hF (by omega)) ([]) ([]) (sY _ _) rfl (q0 := 0) rfl rfl rfl ⟨rfl, rfl, Nat.le_of_ble_eq_true rfl, Nat.le_of_ble_eq_true rfl⟩ ⟨Nat.le_of_ble_eq_true rfl, Nat.le_of_ble_eq_true rfl⟩ (Nat.le_of_ble_eq_true rfl) dX5_behind_1 (fun v w1 hp => ?_)
  obtain ⟨rfl, rfl⟩ := hp
  refine Teq (ws' := wS G cy q rr tt M g) (lv' := [(0, .ref (q 0)), (1, .int (enc (h)))]) (st' := [.int (enc (cntIn M (M 17 0).toNat))]) (sY _ _).symm rfl rfl ?_
  refine tw_istore_n (lv' := [(2, .int (enc (cntIn M (M 17 0).toNat))), (0, .ref (q 0)), (1, .int (enc (h)))]) X dX5_behind_4 rfl (by decide) rfl ?_
  refine tw_iconst X dX5_behind_5 ?_
  refine tw_istore_n (lv' := [(3, .int (enc (0))), (2, .int (enc (cntIn M (M 17 0).toNat))), (0, .ref (q 0)), (1, .int (enc (h)))]) X dX5_behind_6 rfl (by decide) rfl ?_
  have L7 : ∀ (fu i : Nat) (g1 : Int → Int), (i : Int) ≤ h → h + 1 ≤ (i : Int) + fu → GE (hoursM M i) g1 → T G c ({ frames := 4, cells := 1200, slots := 12000, locals := 104 } : Room) 4 (24 * i) (240 * i) (wS G cy q rr tt (hoursM M i) g1) 7 [(3, .int (enc ((i : Int)))), (2, .int (enc (cntIn M (M 17 0).toNat))), (0, .ref (q 0)), (1, .int (enc (h)))] [] := by
    intro fu
    induction fu with
    | zero =>
      intro i g1 hi0 hi1
      exact absurd hi1 (by omega)
    | succ fu ih7 =>
      intro i g1 hi0_7 hi1_7 hG
      have hFi := hF.hours i
      refine tw_iload_n X dX5_behind_7 0 rfl rfl ?_
      refine tw_iload_n X dX5_behind_8 3 rfl rfl ?_
      refine tw_icmp_ge (tgt := 22) X (In_of (by omega) (by omega)) (In_of (by omega) (by omega)) dX5_behind_9 (by decide) (fun c9 => ?_) (fun c9 => ?_)
      · skip
        refine tw_aload_n X dX5_behind_22 2 rfl rfl ?_
        refine tw_callV X (As := []) (st := []) vw_X5_49 (m_X5_arrived (q := q) (rr := rr) (tt := tt) (hoursM M i) g1 (B + 26 * i) hFi (by omega)) ([]) ([]) (sY _ _) rfl (q0 := 0) rfl rfl rfl ⟨rfl, rfl, Nat.le_of_ble_eq_true rfl, Nat.le_of_ble_eq_true rfl⟩ ⟨(show 24 * i + 0 ≤ 1200 by omega), (show 240 * i + 0 ≤ 12000 by omega)⟩ (Nat.le_of_ble_eq_true rfl) dX5_behind_23 (fun v w1 hp => ?_)
        obtain ⟨rfl, rfl⟩ := hp
        refine Teq (ws' := wS G cy q rr tt (hoursM M i) g1) (lv' := [(3, .int (enc ((i : Int)))), (2, .int (enc (cntIn M (M 17 0).toNat))), (0, .ref (q 0)), (1, .int (enc (h)))]) (st' := [.int (enc (cntIn (hoursM M i) ((hoursM M i) 17 0).toNat))]) (sY _ _).symm rfl rfl ?_
        have h17i := congrFun (hours_17 M i) 0
        have hci := cntIn_rng (hoursM M i) (hoursM M i 17 0).toNat
        refine tw_iload_n X dX5_behind_26 1 rfl rfl ?_
        refine tw_isub (z := (cntIn (hoursM M i) ((hoursM M i) 17 0).toNat) - (cntIn M (M 17 0).toNat)) X dX5_behind_27 rfl ?_
        refine Twiden (k' := 1200) (n' := 12000) (by omega) (by omega) ?_
        exact ret _ _ _ _ dX5_behind_28 ⟨by rw [show h.toNat = i by omega, ← h17i], g1, by rw [show h.toNat = i by omega]; exact hG, by rw [show h.toNat = i by omega]⟩
      · skip
        refine tw_aload_n X dX5_behind_12 2 rfl rfl ?_
        refine tw_callV X (As := []) (st := []) vw_X5_53 (m_X5_pass (q := q) (rr := rr) (tt := tt) (hoursM M i) g1 (B + 26 * i) hFi (by omega) hG) ([]) ([]) (sY _ _) rfl (q0 := 0) rfl rfl rfl ⟨rfl, rfl, Nat.le_of_ble_eq_true rfl, Nat.le_of_ble_eq_true rfl⟩ ⟨(show 24 * i + 24 ≤ 1200 by omega), (show 240 * i + 240 ≤ 12000 by omega)⟩ (Nat.le_of_ble_eq_true rfl) dX5_behind_13 (fun v w1 hp => ?_)
        obtain ⟨rfl, g2, hGg2, rfl⟩ := hp
        refine Teq (ws' := wS G cy q rr tt (hourM (hoursM M i)) g2) (lv' := [(3, .int (enc ((i : Int)))), (2, .int (enc (cntIn M (M 17 0).toNat))), (0, .ref (q 0)), (1, .int (enc (h)))]) (st' := []) (sY _ _).symm rfl rfl ?_
        refine tw_iinc (q := 0) (x := (i : Int)) (y := (i : Int) + 1) (lv' := [(3, .int (enc ((i : Int) + 1))), (2, .int (enc (cntIn M (M 17 0).toNat))), (0, .ref (q 0)), (1, .int (enc (h)))]) X dX5_behind_16 rfl rfl (by decide) rfl ?_
        refine tw_goto (tgt := 7) X dX5_behind_19 (by decide) ?_
        refine Twiden (k' := 24 * (i + 1)) (n' := 240 * (i + 1)) (by omega) (by omega) ?_
        refine Tsub (lv' := [(3, .int (enc ((i : Int) + 1))), (2, .int (enc (cntIn M (M 17 0).toNat))), (0, .ref (q 0)), (1, .int (enc (h)))]) [0, 1, 2, 3] rfl ?_
        refine Teq (ws' := wS G cy q rr tt (hoursM M (i + 1)) (g2)) (lv' := [(3, .int (enc (((i + 1 : Nat) : Int)))), (2, .int (enc (cntIn M (M 17 0).toNat))), (0, .ref (q 0)), (1, .int (enc (h)))]) (st' := []) (rfl) (lvc (i_succ i) (lvk (lvk (lvk (rfl))))) rfl (ih7 (i + 1) (g2) (by omega) (by omega) (hGg2))
  refine Twiden (k' := 24 * 0) (n' := 240 * 0) (by omega) (by omega) ?_
  refine Teq (ws' := wS G cy q rr tt (hoursM M 0) (g)) (lv' := [(3, .int (enc (((0 : Nat) : Int)))), (2, .int (enc (cntIn M (M 17 0).toNat))), (0, .ref (q 0)), (1, .int (enc (h)))]) (st' := []) (rfl) (rfl) rfl (L7 (h + 1).toNat 0 (g) (by omega) (by omega) (hG0))
