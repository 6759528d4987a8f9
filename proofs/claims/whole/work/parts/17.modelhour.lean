/-! THE MODEL'S HOUR -/
def mo (x : Int) : Int := if x = 1000000 then 9999 else x
theorem twd_120 {M : MT} (hW : WFR M) (p g : Int) : ∀ n : Nat, (n : Int) ≤ M 16 0 → (twd M p g n).2 = 1000000 ∨ (twd M p g n).2 ≤ 120
  | 0, _ => Or.inl rfl
  | n + 1, hn => by
    by_cases h : M 6 n = 0 ∧ 0 ≤ endF M n p ∧ len M n + dst M true (endF M n p) g < (twd M p g n).2
    · rw [twd_y h.1 h.2.1 h.2.2]
      have hl := hW.ln (r := (n : Int)) (by omega) (by omega)
      have e := endF_rng hW (r := (n : Int)) (by omega) (by omega) h.2.1
      have h2 := (twd_ok (M := M) p g n).2
      have d := dst_108 (o := true) hW (a := endF M n p) (b := g) h.2.1 e.2.2.1 (by omega)
      right
      show len M n + dst M true (endF M n p) g ≤ 120
      omega
    · rw [twd_n h]; exact twd_120 hW p g n (by omega)
set_option maxRecDepth 100000 in
set_option maxHeartbeats 4000000 in
theorem m_X5_apart {G : va_G} {cy : ClassId} {q : Nat → Nat} (M : MT) (th : Int) (kept far : Int → Int) (a b : Int) (ob : Bool) (hW : WFR M) (hB : Bd M) (ha : 0 ≤ a ∧ a < M 19 0) (hb : 0 ≤ b ∧ b < M 19 0) : Ct G cy yX5_apart cX5_apart 4 (some .int) ({ frames := 3, cells := 0, slots := 0, locals := 69 } : Room) 0 0 [.ref (q 0), .int (enc (a)), .int (enc (b)), .int (enc (if ob = false then 1 else 0))] (wP cy q M th kept far) (fun v w1 => v = some (.int (enc (dO M ob a b))) ∧ ∃ f', w1 = wP cy q M th kept f') := by
  refine Ct.ofI (by decide) (Nat.le_of_ble_eq_true rfl) rfl rfl (fun _ _ _ => rfl) ?_
  intro c X ret
  obtain ⟨w0, w1, w2, w3, w4⟩ := id hW
  refine Tlv (lv' := [(0, .ref (q 0)), (1, .int (enc (a))), (2, .int (enc (b))), (3, .int (enc (if ob = false then 1 else 0)))]) rfl ?_
  refine tw_aload_n X dX5_apart_0 0 rfl rfl ?_
  refine tw_iload_n X dX5_apart_1 2 rfl rfl ?_
  refine tw_iload_n X dX5_apart_2 3 rfl rfl ?_
  refine tw_callV X (As := [.int (enc (b)), .int (enc (if ob = false then 1 else 0))]) (st := []) vw_X5_83 (m_X5_measure (q := q) M th kept far (b) ob hW hB hb) ([]) ([]) rfl rfl (q0 := 0) rfl rfl rfl ⟨rfl, rfl, Nat.le_of_ble_eq_true rfl, Nat.le_of_ble_eq_true rfl⟩ ⟨Nat.le_of_ble_eq_true rfl, Nat.le_of_ble_eq_true rfl⟩ (Nat.le_of_ble_eq_true rfl) dX5_apart_3 (fun v w1 hp => ?_)
  obtain ⟨rfl, fm, hfm, rfl⟩ := hp
  refine Teq (ws' := wP cy q M th kept fm) (lv' := [(0, .ref (q 0)), (1, .int (enc (a))), (2, .int (enc (b))), (3, .int (enc (if ob = false then 1 else 0)))]) (st' := []) rfl rfl rfl ?_
  have hf := hfm a ha.1 ha.2
  have hd := dst_ok (o := ob) hW a b
  have hd0 := hd.1
  have hd1 := hd.2.1
  have h108 : dst M ob a b < 1000000 → dst M ob a b ≤ 108 := dst_108 hW ha.1 ha.2
  have hf2 : fm a = if dst M ob a b < 1000000 then dst M ob a b else 9999 := hf
  have hfr : 0 ≤ fm a ∧ fm a ≤ 9999 := by rw [hf2]; split <;> omega
  refine tw_aload_n X dX5_apart_6 0 rfl rfl ?_
  refine gf_X5_37 X (v := .ref (q 10)) 0 rfl rfl dX5_apart_7 ?_
  refine tw_iload_n X dX5_apart_10 1 rfl rfl ?_
  refine tw_iald X (N := 10) (f := fm) 10 rfl (by decide) (by omega) dX5_apart_11 ?_
  refine Tst (st' := [.int (enc (fm a))]) rfl ?_
  refine tw_sipush X dX5_apart_12 (by decide) ?_
  refine tw_icmp_lt (tgt := 22) X (In_of (by omega) (by omega)) (In_of (by omega) (by omega)) dX5_apart_15 (by decide) (fun c15 => ?_) (fun c15 => ?_)
  · skip
    have z : dst M ob a b < 1000000 := by rcases ilt (dst M ob a b) 1000000 with z | z; exact z; (rw [if_neg (by omega)] at hf2; omega)
    have ef : fm a = dst M ob a b := by rw [hf2, if_pos z]
    have eo : dO M ob a b = fm a := by unfold dO; rw [if_pos z, ef]
    refine tw_aload_n X dX5_apart_22 0 rfl rfl ?_
    refine gf_X5_37 X (v := .ref (q 10)) 0 rfl rfl dX5_apart_23 ?_
    refine tw_iload_n X dX5_apart_26 1 rfl rfl ?_
    refine tw_iald X (N := 10) (f := fm) 10 rfl (by decide) (by omega) dX5_apart_27 ?_
    refine Tst (st' := [.int (enc (fm a))]) rfl ?_
    exact ret _ _ _ _ dX5_apart_28 ⟨by rw [eo], fm, rfl⟩
  · skip
    have z : ¬ dst M ob a b < 1000000 := fun z => by rw [if_pos z] at hf2; have := h108 z; omega
    have eo : dO M ob a b = -1 := by unfold dO; rw [if_neg z]
    refine tw_iconst X dX5_apart_18 ?_
    refine tw_goto (tgt := 28) X dX5_apart_19 (by decide) ?_
    exact ret _ _ _ _ dX5_apart_28 ⟨by rw [eo], fm, rfl⟩
set_option maxRecDepth 100000 in
set_option maxHeartbeats 4000000 in
theorem m_X5_takes {G : va_G} {cy : ClassId} {q : Nat → Nat} (M : MT) (th : Int) (kept far : Int → Int) (p g : Int) (hW : WFR M) (hB : Bd M) (hp : 0 ≤ p ∧ p < M 19 0) (hg : 0 ≤ g ∧ g < M 19 0) : Ct G cy yX5_takes cX5_takes 7 (some .int) ({ frames := 3, cells := 0, slots := 0, locals := 69 } : Room) 0 0 [.ref (q 0), .int (enc (p)), .int (enc (g))] (wP cy q M th kept far) (fun v w1 => v = some (.int (enc (if p = g then -1 else toward M p g))) ∧ ∃ f', w1 = wP cy q M th kept f') := by
  refine Ct.ofI (by decide) (Nat.le_of_ble_eq_true rfl) rfl rfl (fun _ _ _ => rfl) ?_
  intro c X ret
  obtain ⟨w0, w1, w2, w3, w4⟩ := id hW
  refine Tlv (lv' := [(0, .ref (q 0)), (1, .int (enc (p))), (2, .int (enc (g)))]) rfl ?_
  refine tw_iload_n X dX5_takes_0 1 rfl rfl ?_
  refine tw_iload_n X dX5_takes_1 2 rfl rfl ?_
  refine tw_icmp_ne (tgt := 7) X (In_of (by omega) (by omega)) (In_of (by omega) (by omega)) dX5_takes_2 (by decide) (fun c2 => ?_) (fun c2 => ?_)
  · skip
    refine tw_aload_n X dX5_takes_7 0 rfl rfl ?_
    refine tw_iload_n X dX5_takes_8 2 rfl rfl ?_
    refine tw_iconst X dX5_takes_9 ?_
    refine tw_callV X (As := [.int (enc (g)), .int (enc (0))]) (st := []) vw_X5_83 (m_X5_measure (q := q) M th kept far (g) true hW hB hg) ([]) ([]) rfl rfl (q0 := 0) rfl rfl rfl ⟨rfl, rfl, Nat.le_of_ble_eq_true rfl, Nat.le_of_ble_eq_true rfl⟩ ⟨Nat.le_of_ble_eq_true rfl, Nat.le_of_ble_eq_true rfl⟩ (Nat.le_of_ble_eq_true rfl) dX5_takes_10 (fun v w1 hp => ?_)
    obtain ⟨rfl, fm, hfm, rfl⟩ := hp
    refine Teq (ws' := wP cy q M th kept fm) (lv' := [(0, .ref (q 0)), (1, .int (enc (p))), (2, .int (enc (g)))]) (st' := []) rfl rfl rfl ?_
    refine tw_iconst X dX5_takes_13 ?_
    refine tw_istore_n (lv' := [(3, .int (enc (-1))), (0, .ref (q 0)), (1, .int (enc (p))), (2, .int (enc (g)))]) X dX5_takes_14 rfl (by decide) rfl ?_
    refine tw_sipush X dX5_takes_15 (by decide) ?_
    refine tw_istore (lv' := [(4, .int (enc (9999))), (3, .int (enc (-1))), (0, .ref (q 0)), (1, .int (enc (p))), (2, .int (enc (g)))]) X dX5_takes_18 (by decide) rfl ?_
    refine tw_iconst X dX5_takes_20 ?_
    refine tw_istore (lv' := [(5, .int (enc (0))), (4, .int (enc (9999))), (3, .int (enc (-1))), (0, .ref (q 0)), (1, .int (enc (p))), (2, .int (enc (g)))]) X dX5_takes_21 (by decide) rfl ?_
    have L23 : ∀ (fu i : Nat), (i : Int) ≤ M 16 0 → M 16 0 + 1 ≤ (i : Int) + fu → T G c ({ frames := 3, cells := 0, slots := 0, locals := 69 } : Room) 7 0 0 (wP cy q M th kept fm) 23 [(0, .ref (q 0)), (1, .int (enc (p))), (2, .int (enc (g))), (3, .int (enc ((twd M p g i).1))), (4, .int (enc (mo (twd M p g i).2))), (5, .int (enc ((i : Int))))] [] := by
      intro fu
      induction fu with
      | zero =>
        intro i  hi0 hi1
        exact absurd hi1 (by omega)
      | succ fu ih23 =>
        intro i  hi0_23 hi1_23 
        refine tw_iload X dX5_takes_23 5 rfl ?_
        refine tw_aload_n X dX5_takes_25 0 rfl rfl ?_
        refine gf_X5_51 X (v := .int (enc (M 16 0))) 0 rfl rfl dX5_takes_26 ?_
        have b1 := hB 16 0
        refine tw_icmp_ge (tgt := 110) X (In_of (by omega) (by omega)) (In_of (by omega) (by omega)) dX5_takes_29 (by decide) (fun c29 => ?_) (fun c29 => ?_)
        · skip
          refine tw_iload_n X dX5_takes_110 3 rfl rfl ?_
          exact ret _ _ _ _ dX5_takes_111 ⟨by rw [if_neg c2]; unfold toward; rw [show (M 16 0).toNat = i by omega], _, rfl⟩
        · skip
          have gi := w4 (i : Int) (by omega) c29
          refine tw_aload_n X dX5_takes_32 0 rfl rfl ?_
          refine tw_iload X dX5_takes_33 5 rfl ?_
          refine tw_callV X (As := [.int (enc ((i : Int)))]) (st := []) vw_X5_70 (m_X5_isOpen (q := q) M th kept fm ((i : Int)) hB (by omega)) ([]) ([]) rfl rfl (q0 := 0) rfl rfl rfl ⟨rfl, rfl, Nat.le_of_ble_eq_true rfl, Nat.le_of_ble_eq_true rfl⟩ ⟨Nat.le_of_ble_eq_true rfl, Nat.le_of_ble_eq_true rfl⟩ (Nat.le_of_ble_eq_true rfl) dX5_takes_35 (fun v w1 hp => ?_)
          obtain ⟨rfl, rfl⟩ := hp
          refine Teq (ws' := wP cy q M th kept fm) (lv' := [(0, .ref (q 0)), (1, .int (enc (p))), (2, .int (enc (g))), (3, .int (enc ((twd M p g i).1))), (4, .int (enc (mo (twd M p g i).2))), (5, .int (enc ((i : Int))))]) (st' := [.int (enc (if M 6 (i : Int) = 0 then 1 else 0))]) rfl rfl rfl ?_
          refine tw_if_eq (tgt := 104) X In_b dX5_takes_38 (by decide) (fun c38 => ?_) (fun c38 => ?_)
          · skip
            have c38 := b01.mp c38
            have eT : twd M p g (i + 1) = twd M p g i := twd_n (fun z => c38 z.1)
            refine tw_iinc (q := 5) (x := (i : Int)) (y := (i : Int) + 1) (lv' := [(5, .int (enc ((i : Int) + 1))), (0, .ref (q 0)), (1, .int (enc (p))), (2, .int (enc (g))), (3, .int (enc ((twd M p g i).1))), (4, .int (enc (mo (twd M p g i).2)))]) X dX5_takes_104 rfl rfl (by decide) rfl ?_
            refine tw_goto (tgt := 23) X dX5_takes_107 (by decide) ?_
            refine Tsub (lv' := [(0, .ref (q 0)), (1, .int (enc (p))), (2, .int (enc (g))), (3, .int (enc ((twd M p g i).1))), (4, .int (enc (mo (twd M p g i).2))), (5, .int (enc ((i : Int) + 1)))]) [1, 2, 3, 4, 5, 0] rfl ?_
            refine Teq (ws' := wP cy q M th kept fm) (lv' := [(0, .ref (q 0)), (1, .int (enc (p))), (2, .int (enc (g))), (3, .int (enc ((twd M p g (i + 1)).1))), (4, .int (enc (mo (twd M p g (i + 1)).2))), (5, .int (enc (((i + 1 : Nat) : Int))))]) (st' := []) (rfl) (lvk (lvk (lvk (lvc (by rw [eT]) (lvc (by rw [eT]) (lvc (i_succ i) (rfl))))))) rfl (ih23 (i + 1) (by omega) (by omega))
          · skip
            have c38 := b01n.mp c38
            refine tw_aload_n X dX5_takes_41 0 rfl rfl ?_
            refine gf_X5_9 X (v := .ref (q 1)) 0 rfl rfl dX5_takes_42 ?_
            refine tw_iload X dX5_takes_45 5 rfl ?_
            refine tw_iald X (N := 20) (f := (M 0)) 1 rfl (by decide) (by omega) dX5_takes_47 ?_
            refine Tst (st' := [.int (enc (M 0 (i : Int)))]) rfl ?_
            have b2 := hB 0 (i : Int)
            refine tw_iload_n X dX5_takes_48 1 rfl rfl ?_
            refine tw_icmp_eq (tgt := 66) X (In_of (by omega) (by omega)) (In_of (by omega) (by omega)) dX5_takes_49 (by decide) (fun c49 => ?_) (fun c49 => ?_)
            · skip
              refine tw_aload_n X dX5_takes_66 0 rfl rfl ?_
              refine tw_iload X dX5_takes_67 5 rfl ?_
              refine tw_callV X (As := [.int (enc ((i : Int)))]) (st := []) vw_X5_74 (m_X5_longNow (q := q) M th kept fm ((i : Int)) (by omega)) ([]) ([]) rfl rfl (q0 := 0) rfl rfl rfl ⟨rfl, rfl, Nat.le_of_ble_eq_true rfl, Nat.le_of_ble_eq_true rfl⟩ ⟨Nat.le_of_ble_eq_true rfl, Nat.le_of_ble_eq_true rfl⟩ (Nat.le_of_ble_eq_true rfl) dX5_takes_69 (fun v w1 hp => ?_)
              obtain ⟨rfl, rfl⟩ := hp
              refine Teq (ws' := wP cy q M th kept fm) (lv' := [(0, .ref (q 0)), (1, .int (enc (p))), (2, .int (enc (g))), (3, .int (enc ((twd M p g i).1))), (4, .int (enc (mo (twd M p g i).2))), (5, .int (enc ((i : Int))))]) (st' := [.int (enc (len M (i : Int)))]) rfl rfl rfl ?_
              refine tw_aload_n X dX5_takes_72 0 rfl rfl ?_
              refine gf_X5_37 X (v := .ref (q 10)) 0 rfl rfl dX5_takes_73 ?_
              refine tw_aload_n X dX5_takes_76 0 rfl rfl ?_
              refine tw_iload X dX5_takes_77 5 rfl ?_
              refine tw_iload_n X dX5_takes_79 1 rfl rfl ?_
              refine tw_callV X (As := [.int (enc ((i : Int))), .int (enc (p))]) (st := [.ref (q 10), .int (enc (len M (i : Int)))]) vw_X5_87 (m_X5_end (q := q) M th kept fm ((i : Int)) (p) hB (by omega) (by omega)) ([]) ([]) rfl rfl (q0 := 0) rfl rfl rfl ⟨rfl, rfl, Nat.le_of_ble_eq_true rfl, Nat.le_of_ble_eq_true rfl⟩ ⟨Nat.le_of_ble_eq_true rfl, Nat.le_of_ble_eq_true rfl⟩ (Nat.le_of_ble_eq_true rfl) dX5_takes_80 (fun v w1 hp => ?_)
              obtain ⟨rfl, rfl⟩ := hp
              refine Teq (ws' := wP cy q M th kept fm) (lv' := [(0, .ref (q 0)), (1, .int (enc (p))), (2, .int (enc (g))), (3, .int (enc ((twd M p g i).1))), (4, .int (enc (mo (twd M p g i).2))), (5, .int (enc ((i : Int))))]) (st' := [.int (enc (endG M (i : Int) p)), .ref (q 10), .int (enc (len M (i : Int)))]) rfl rfl rfl ?_
              have eG : endG M (i : Int) p = endF M (i : Int) p := endG_F (by omega)
              have he0 : 0 ≤ endF M (i : Int) p := by rw [← eG]; unfold endG; split <;> omega
              have er := endF_rng hW (r := (i : Int)) (by omega) c29 he0
              have hfe := hfm (endG M (i : Int) p) (by omega) (by omega)
              have hd := dst_ok (o := true) hW (endF M (i : Int) p) g
              have hd0 := hd.1
              have hd1 := hd.2.1
              have h108 : dst M true (endF M (i : Int) p) g < 1000000 → dst M true (endF M (i : Int) p) g ≤ 108 := dst_108 hW he0 er.2.2.1
              have hl := hW.ln (r := (i : Int)) (by omega) c29
              have h120 := twd_120 hW p g i (by omega)
              have hlo := twd_lo hW p g i (by omega)
              have hfe2 : fm (endG M (i : Int) p) = if dst M true (endF M (i : Int) p) g < 1000000 then dst M true (endF M (i : Int) p) g else 9999 := by rw [hfe, eG]; rfl
              have hfr : 0 ≤ fm (endG M (i : Int) p) ∧ fm (endG M (i : Int) p) ≤ 9999 := by rw [hfe2]; split <;> omega
              have hmo : mo (twd M p g i).2 = if (twd M p g i).2 = 1000000 then 9999 else (twd M p g i).2 := rfl
              have hmr : 0 ≤ mo (twd M p g i).2 ∧ mo (twd M p g i).2 ≤ 9999 := by rw [hmo]; split <;> omega
              refine tw_iald X (N := 10) (f := fm) 10 rfl (by decide) (by omega) dX5_takes_83 ?_
              refine Tst (st' := [.int (enc (fm (endG M (i : Int) p))), .int (enc (len M (i : Int)))]) rfl ?_
              refine tw_iadd (z := (len M (i : Int)) + (fm (endG M (i : Int) p))) X dX5_takes_84 rfl ?_
              refine tw_istore (lv' := [(6, .int (enc ((len M (i : Int)) + (fm (endG M (i : Int) p))))), (0, .ref (q 0)), (1, .int (enc (p))), (2, .int (enc (g))), (3, .int (enc ((twd M p g i).1))), (4, .int (enc (mo (twd M p g i).2))), (5, .int (enc ((i : Int))))]) X dX5_takes_85 (by decide) rfl ?_
              refine tw_iload X dX5_takes_87 0 rfl ?_
              refine tw_iload X dX5_takes_89 5 rfl ?_
              refine tw_icmp_lt (tgt := 97) X (In_of (by omega) (by omega)) (In_of (by omega) (by omega)) dX5_takes_91 (by decide) (fun c91 => ?_) (fun c91 => ?_)
              · skip
                have hdl : dst M true (endF M (i : Int) p) g < 1000000 := by rcases ilt (dst M true (endF M (i : Int) p) g) 1000000 with z | z; exact z; (rw [if_neg (by omega)] at hfe2; omega)
                have eT : twd M p g (i + 1) = ((i : Int), len M (i : Int) + dst M true (endF M (i : Int) p) g) := twd_y c38 he0 (by rw [if_pos hdl] at hfe2; rw [hmo] at c91; split at c91 <;> omega)
                have eMo : len M (i : Int) + fm (endG M (i : Int) p) = mo (len M (i : Int) + dst M true (endF M (i : Int) p) g) := by rw [hfe2, if_pos hdl]; unfold mo; rw [if_neg (by omega)]
                refine tw_iload X dX5_takes_97 6 rfl ?_
                refine tw_istore_n (lv' := [(3, .int (enc ((i : Int)))), (6, .int (enc ((len M (i : Int)) + (fm (endG M (i : Int) p))))), (0, .ref (q 0)), (1, .int (enc (p))), (2, .int (enc (g))), (4, .int (enc (mo (twd M p g i).2))), (5, .int (enc ((i : Int))))]) X dX5_takes_99 rfl (by decide) rfl ?_
                refine tw_iload X dX5_takes_100 1 rfl ?_
                refine tw_istore (lv' := [(4, .int (enc ((len M (i : Int)) + (fm (endG M (i : Int) p))))), (3, .int (enc ((i : Int)))), (6, .int (enc ((len M (i : Int)) + (fm (endG M (i : Int) p))))), (0, .ref (q 0)), (1, .int (enc (p))), (2, .int (enc (g))), (5, .int (enc ((i : Int))))]) X dX5_takes_102 (by decide) rfl ?_
                refine tw_iinc (q := 6) (x := (i : Int)) (y := (i : Int) + 1) (lv' := [(5, .int (enc ((i : Int) + 1))), (4, .int (enc ((len M (i : Int)) + (fm (endG M (i : Int) p))))), (3, .int (enc ((i : Int)))), (6, .int (enc ((len M (i : Int)) + (fm (endG M (i : Int) p))))), (0, .ref (q 0)), (1, .int (enc (p))), (2, .int (enc (g)))]) X dX5_takes_104 rfl rfl (by decide) rfl ?_
                refine tw_goto (tgt := 23) X dX5_takes_107 (by decide) ?_
                refine Tsub (lv' := [(0, .ref (q 0)), (1, .int (enc (p))), (2, .int (enc (g))), (3, .int (enc ((i : Int)))), (4, .int (enc ((len M (i : Int)) + (fm (endG M (i : Int) p))))), (5, .int (enc ((i : Int) + 1)))]) [4, 5, 6, 2, 1, 0] rfl ?_
                refine Teq (ws' := wP cy q M th kept fm) (lv' := [(0, .ref (q 0)), (1, .int (enc (p))), (2, .int (enc (g))), (3, .int (enc ((twd M p g (i + 1)).1))), (4, .int (enc (mo (twd M p g (i + 1)).2))), (5, .int (enc (((i + 1 : Nat) : Int))))]) (st' := []) (rfl) (lvk (lvk (lvk (lvc (by rw [eT]) (lvc (by rw [eT]; exact eMo) (lvc (i_succ i) (rfl))))))) rfl (ih23 (i + 1) (by omega) (by omega))
              · skip
                have eT : twd M p g (i + 1) = twd M p g i := twd_n (fun z => by rw [if_pos (show dst M true (endF M (i : Int) p) g < 1000000 by omega)] at hfe2; rw [hmo] at c91; split at c91 <;> omega)
                refine tw_goto (tgt := 104) X dX5_takes_94 (by decide) ?_
                refine tw_iinc (q := 6) (x := (i : Int)) (y := (i : Int) + 1) (lv' := [(5, .int (enc ((i : Int) + 1))), (6, .int (enc ((len M (i : Int)) + (fm (endG M (i : Int) p))))), (0, .ref (q 0)), (1, .int (enc (p))), (2, .int (enc (g))), (3, .int (enc ((twd M p g i).1))), (4, .int (enc (mo (twd M p g i).2)))]) X dX5_takes_104 rfl rfl (by decide) rfl ?_
                refine tw_goto (tgt := 23) X dX5_takes_107 (by decide) ?_
                refine Tsub (lv' := [(0, .ref (q 0)), (1, .int (enc (p))), (2, .int (enc (g))), (3, .int (enc ((twd M p g i).1))), (4, .int (enc (mo (twd M p g i).2))), (5, .int (enc ((i : Int) + 1)))]) [2, 3, 4, 5, 6, 0] rfl ?_
                refine Teq (ws' := wP cy q M th kept fm) (lv' := [(0, .ref (q 0)), (1, .int (enc (p))), (2, .int (enc (g))), (3, .int (enc ((twd M p g (i + 1)).1))), (4, .int (enc (mo (twd M p g (i + 1)).2))), (5, .int (enc (((i + 1 : Nat) : Int))))]) (st' := []) (rfl) (lvk (lvk (lvk (lvc (by rw [eT]) (lvc (by rw [eT]) (lvc (i_succ i) (rfl))))))) rfl (ih23 (i + 1) (by omega) (by omega))
            · skip
              refine tw_aload_n X dX5_takes_52 0 rfl rfl ?_
              refine gf_X5_13 X (v := .ref (q 2)) 0 rfl rfl dX5_takes_53 ?_
              refine tw_iload X dX5_takes_56 5 rfl ?_
              refine tw_iald X (N := 20) (f := (M 1)) 2 rfl (by decide) (by omega) dX5_takes_58 ?_
              refine Tst (st' := [.int (enc (M 1 (i : Int)))]) rfl ?_
              have b3 := hB 1 (i : Int)
              refine tw_iload_n X dX5_takes_59 1 rfl rfl ?_
              refine tw_icmp_eq (tgt := 66) X (In_of (by omega) (by omega)) (In_of (by omega) (by omega)) dX5_takes_60 (by decide) (fun c60 => ?_) (fun c60 => ?_)
              · skip
                refine tw_aload_n X dX5_takes_66 0 rfl rfl ?_
                refine tw_iload X dX5_takes_67 5 rfl ?_
                refine tw_callV X (As := [.int (enc ((i : Int)))]) (st := []) vw_X5_74 (m_X5_longNow (q := q) M th kept fm ((i : Int)) (by omega)) ([]) ([]) rfl rfl (q0 := 0) rfl rfl rfl ⟨rfl, rfl, Nat.le_of_ble_eq_true rfl, Nat.le_of_ble_eq_true rfl⟩ ⟨Nat.le_of_ble_eq_true rfl, Nat.le_of_ble_eq_true rfl⟩ (Nat.le_of_ble_eq_true rfl) dX5_takes_69 (fun v w1 hp => ?_)
                obtain ⟨rfl, rfl⟩ := hp
                refine Teq (ws' := wP cy q M th kept fm) (lv' := [(0, .ref (q 0)), (1, .int (enc (p))), (2, .int (enc (g))), (3, .int (enc ((twd M p g i).1))), (4, .int (enc (mo (twd M p g i).2))), (5, .int (enc ((i : Int))))]) (st' := [.int (enc (len M (i : Int)))]) rfl rfl rfl ?_
                refine tw_aload_n X dX5_takes_72 0 rfl rfl ?_
                refine gf_X5_37 X (v := .ref (q 10)) 0 rfl rfl dX5_takes_73 ?_
                refine tw_aload_n X dX5_takes_76 0 rfl rfl ?_
                refine tw_iload X dX5_takes_77 5 rfl ?_
                refine tw_iload_n X dX5_takes_79 1 rfl rfl ?_
                refine tw_callV X (As := [.int (enc ((i : Int))), .int (enc (p))]) (st := [.ref (q 10), .int (enc (len M (i : Int)))]) vw_X5_87 (m_X5_end (q := q) M th kept fm ((i : Int)) (p) hB (by omega) (by omega)) ([]) ([]) rfl rfl (q0 := 0) rfl rfl rfl ⟨rfl, rfl, Nat.le_of_ble_eq_true rfl, Nat.le_of_ble_eq_true rfl⟩ ⟨Nat.le_of_ble_eq_true rfl, Nat.le_of_ble_eq_true rfl⟩ (Nat.le_of_ble_eq_true rfl) dX5_takes_80 (fun v w1 hp => ?_)
                obtain ⟨rfl, rfl⟩ := hp
                refine Teq (ws' := wP cy q M th kept fm) (lv' := [(0, .ref (q 0)), (1, .int (enc (p))), (2, .int (enc (g))), (3, .int (enc ((twd M p g i).1))), (4, .int (enc (mo (twd M p g i).2))), (5, .int (enc ((i : Int))))]) (st' := [.int (enc (endG M (i : Int) p)), .ref (q 10), .int (enc (len M (i : Int)))]) rfl rfl rfl ?_
                have eG : endG M (i : Int) p = endF M (i : Int) p := endG_F (by omega)
                have he0 : 0 ≤ endF M (i : Int) p := by rw [← eG]; unfold endG; split <;> omega
                have er := endF_rng hW (r := (i : Int)) (by omega) c29 he0
                have hfe := hfm (endG M (i : Int) p) (by omega) (by omega)
                have hd := dst_ok (o := true) hW (endF M (i : Int) p) g
                have hd0 := hd.1
                have hd1 := hd.2.1
                have h108 : dst M true (endF M (i : Int) p) g < 1000000 → dst M true (endF M (i : Int) p) g ≤ 108 := dst_108 hW he0 er.2.2.1
                have hl := hW.ln (r := (i : Int)) (by omega) c29
                have h120 := twd_120 hW p g i (by omega)
                have hlo := twd_lo hW p g i (by omega)
                have hfe2 : fm (endG M (i : Int) p) = if dst M true (endF M (i : Int) p) g < 1000000 then dst M true (endF M (i : Int) p) g else 9999 := by rw [hfe, eG]; rfl
                have hfr : 0 ≤ fm (endG M (i : Int) p) ∧ fm (endG M (i : Int) p) ≤ 9999 := by rw [hfe2]; split <;> omega
                have hmo : mo (twd M p g i).2 = if (twd M p g i).2 = 1000000 then 9999 else (twd M p g i).2 := rfl
                have hmr : 0 ≤ mo (twd M p g i).2 ∧ mo (twd M p g i).2 ≤ 9999 := by rw [hmo]; split <;> omega
                refine tw_iald X (N := 10) (f := fm) 10 rfl (by decide) (by omega) dX5_takes_83 ?_
                refine Tst (st' := [.int (enc (fm (endG M (i : Int) p))), .int (enc (len M (i : Int)))]) rfl ?_
                refine tw_iadd (z := (len M (i : Int)) + (fm (endG M (i : Int) p))) X dX5_takes_84 rfl ?_
                refine tw_istore (lv' := [(6, .int (enc ((len M (i : Int)) + (fm (endG M (i : Int) p))))), (0, .ref (q 0)), (1, .int (enc (p))), (2, .int (enc (g))), (3, .int (enc ((twd M p g i).1))), (4, .int (enc (mo (twd M p g i).2))), (5, .int (enc ((i : Int))))]) X dX5_takes_85 (by decide) rfl ?_
                refine tw_iload X dX5_takes_87 0 rfl ?_
                refine tw_iload X dX5_takes_89 5 rfl ?_
                refine tw_icmp_lt (tgt := 97) X (In_of (by omega) (by omega)) (In_of (by omega) (by omega)) dX5_takes_91 (by decide) (fun c91 => ?_) (fun c91 => ?_)
                · skip
                  have hdl : dst M true (endF M (i : Int) p) g < 1000000 := by rcases ilt (dst M true (endF M (i : Int) p) g) 1000000 with z | z; exact z; (rw [if_neg (by omega)] at hfe2; omega)
                  have eT : twd M p g (i + 1) = ((i : Int), len M (i : Int) + dst M true (endF M (i : Int) p) g) := twd_y c38 he0 (by rw [if_pos hdl] at hfe2; rw [hmo] at c91; split at c91 <;> omega)
                  have eMo : len M (i : Int) + fm (endG M (i : Int) p) = mo (len M (i : Int) + dst M true (endF M (i : Int) p) g) := by rw [hfe2, if_pos hdl]; unfold mo; rw [if_neg (by omega)]
                  refine tw_iload X dX5_takes_97 6 rfl ?_
                  refine tw_istore_n (lv' := [(3, .int (enc ((i : Int)))), (6, .int (enc ((len M (i : Int)) + (fm (endG M (i : Int) p))))), (0, .ref (q 0)), (1, .int (enc (p))), (2, .int (enc (g))), (4, .int (enc (mo (twd M p g i).2))), (5, .int (enc ((i : Int))))]) X dX5_takes_99 rfl (by decide) rfl ?_
                  refine tw_iload X dX5_takes_100 1 rfl ?_
                  refine tw_istore (lv' := [(4, .int (enc ((len M (i : Int)) + (fm (endG M (i : Int) p))))), (3, .int (enc ((i : Int)))), (6, .int (enc ((len M (i : Int)) + (fm (endG M (i : Int) p))))), (0, .ref (q 0)), (1, .int (enc (p))), (2, .int (enc (g))), (5, .int (enc ((i : Int))))]) X dX5_takes_102 (by decide) rfl ?_
                  refine tw_iinc (q := 6) (x := (i : Int)) (y := (i : Int) + 1) (lv' := [(5, .int (enc ((i : Int) + 1))), (4, .int (enc ((len M (i : Int)) + (fm (endG M (i : Int) p))))), (3, .int (enc ((i : Int)))), (6, .int (enc ((len M (i : Int)) + (fm (endG M (i : Int) p))))), (0, .ref (q 0)), (1, .int (enc (p))), (2, .int (enc (g)))]) X dX5_takes_104 rfl rfl (by decide) rfl ?_
                  refine tw_goto (tgt := 23) X dX5_takes_107 (by decide) ?_
                  refine Tsub (lv' := [(0, .ref (q 0)), (1, .int (enc (p))), (2, .int (enc (g))), (3, .int (enc ((i : Int)))), (4, .int (enc ((len M (i : Int)) + (fm (endG M (i : Int) p))))), (5, .int (enc ((i : Int) + 1)))]) [4, 5, 6, 2, 1, 0] rfl ?_
                  refine Teq (ws' := wP cy q M th kept fm) (lv' := [(0, .ref (q 0)), (1, .int (enc (p))), (2, .int (enc (g))), (3, .int (enc ((twd M p g (i + 1)).1))), (4, .int (enc (mo (twd M p g (i + 1)).2))), (5, .int (enc (((i + 1 : Nat) : Int))))]) (st' := []) (rfl) (lvk (lvk (lvk (lvc (by rw [eT]) (lvc (by rw [eT]; exact eMo) (lvc (i_succ i) (rfl))))))) rfl (ih23 (i + 1) (by omega) (by omega))
                · skip
                  have eT : twd M p g (i + 1) = twd M p g i := twd_n (fun z => by rw [if_pos (show dst M true (endF M (i : Int) p) g < 1000000 by omega)] at hfe2; rw [hmo] at c91; split at c91 <;> omega)
                  refine tw_goto (tgt := 104) X dX5_takes_94 (by decide) ?_
                  refine tw_iinc (q := 6) (x := (i : Int)) (y := (i : Int) + 1) (lv' := [(5, .int (enc ((i : Int) + 1))), (6, .int (enc ((len M (i : Int)) + (fm (endG M (i : Int) p))))), (0, .ref (q 0)), (1, .int (enc (p))), (2, .int (enc (g))), (3, .int (enc ((twd M p g i).1))), (4, .int (enc (mo (twd M p g i).2)))]) X dX5_takes_104 rfl rfl (by decide) rfl ?_
                  refine tw_goto (tgt := 23) X dX5_takes_107 (by decide) ?_
                  refine Tsub (lv' := [(0, .ref (q 0)), (1, .int (enc (p))), (2, .int (enc (g))), (3, .int (enc ((twd M p g i).1))), (4, .int (enc (mo (twd M p g i).2))), (5, .int (enc ((i : Int) + 1)))]) [2, 3, 4, 5, 6, 0] rfl ?_
                  refine Teq (ws' := wP cy q M th kept fm) (lv' := [(0, .ref (q 0)), (1, .int (enc (p))), (2, .int (enc (g))), (3, .int (enc ((twd M p g (i + 1)).1))), (4, .int (enc (mo (twd M p g (i + 1)).2))), (5, .int (enc (((i + 1 : Nat) : Int))))]) (st' := []) (rfl) (lvk (lvk (lvk (lvc (by rw [eT]) (lvc (by rw [eT]) (lvc (i_succ i) (rfl))))))) rfl (ih23 (i + 1) (by omega) (by omega))
              · skip
                have eT : twd M p g (i + 1) = twd M p g i := twd_n (fun z => by have := endF_neg c49 c60; omega)
                refine tw_goto (tgt := 104) X dX5_takes_63 (by decide) ?_
                refine tw_iinc (q := 5) (x := (i : Int)) (y := (i : Int) + 1) (lv' := [(5, .int (enc ((i : Int) + 1))), (0, .ref (q 0)), (1, .int (enc (p))), (2, .int (enc (g))), (3, .int (enc ((twd M p g i).1))), (4, .int (enc (mo (twd M p g i).2)))]) X dX5_takes_104 rfl rfl (by decide) rfl ?_
                refine tw_goto (tgt := 23) X dX5_takes_107 (by decide) ?_
                refine Tsub (lv' := [(0, .ref (q 0)), (1, .int (enc (p))), (2, .int (enc (g))), (3, .int (enc ((twd M p g i).1))), (4, .int (enc (mo (twd M p g i).2))), (5, .int (enc ((i : Int) + 1)))]) [1, 2, 3, 4, 5, 0] rfl ?_
                refine Teq (ws' := wP cy q M th kept fm) (lv' := [(0, .ref (q 0)), (1, .int (enc (p))), (2, .int (enc (g))), (3, .int (enc ((twd M p g (i + 1)).1))), (4, .int (enc (mo (twd M p g (i + 1)).2))), (5, .int (enc (((i + 1 : Nat) : Int))))]) (st' := []) (rfl) (lvk (lvk (lvk (lvc (by rw [eT]) (lvc (by rw [eT]) (lvc (i_succ i) (rfl))))))) rfl (ih23 (i + 1) (by omega) (by omega))
    refine Tsub (lv' := [(0, .ref (q 0)), (1, .int (enc (p))), (2, .int (enc (g))), (3, .int (enc (-1))), (4, .int (enc (9999))), (5, .int (enc (0)))]) [3, 4, 5, 2, 1, 0] rfl ?_
    refine Teq (ws' := wP cy q M th kept fm) (lv' := [(0, .ref (q 0)), (1, .int (enc (p))), (2, .int (enc (g))), (3, .int (enc ((twd M p g 0).1))), (4, .int (enc (mo (twd M p g 0).2))), (5, .int (enc (((0 : Nat) : Int))))]) (st' := []) (rfl) (rfl) rfl (L23 (M 16 0 + 1).toNat 0 (by omega) (by omega))
  · skip
    refine tw_iconst X dX5_takes_5 ?_
    exact ret _ _ _ _ dX5_takes_6 ⟨by rw [if_pos c2], _, rfl⟩
set_option maxRecDepth 100000 in
set_option maxHeartbeats 4000000 in
theorem m_X5_mendOn {G : va_G} {cy : ClassId} {q : Nat → Nat} (M : MT) (th : Int) (kept far : Int → Int) (r B : Int) (hF : WF M B) (hB2 : B ≤ 1000000) (hr : 0 ≤ r ∧ r < 20) : Ct G cy yX5_mendOn cX5_mendOn 2 none ({ frames := 2, cells := 0, slots := 0, locals := 43 } : Room) 0 0 [.ref (q 0), .int (enc (r))] (wP cy q M th kept far) (fun v w1 => v = none ∧ w1 = wP cy q (mend1 M r) th kept far) := by
  refine Ct.ofV (by decide) (Nat.le_of_ble_eq_true rfl) rfl rfl ?_
  intro c X ret
  have hB := hF.bd (by omega)
  have d6 := hF.2.2.2.1 r
  refine Tlv (lv' := [(0, .ref (q 0)), (1, .int (enc (r)))]) rfl ?_
  refine tw_aload_n X dX5_mendOn_0 0 rfl rfl ?_
  refine tw_iload_n X dX5_mendOn_1 1 rfl rfl ?_
  refine tw_callV X (As := [.int (enc (r))]) (st := []) vw_X5_70 (m_X5_isOpen (q := q) M th kept far (r) hB (by omega)) ([]) ([]) rfl rfl (q0 := 0) rfl rfl rfl ⟨rfl, rfl, Nat.le_of_ble_eq_true rfl, Nat.le_of_ble_eq_true rfl⟩ ⟨Nat.le_of_ble_eq_true rfl, Nat.le_of_ble_eq_true rfl⟩ (Nat.le_of_ble_eq_true rfl) dX5_mendOn_2 (fun v w1 hp => ?_)
  obtain ⟨rfl, rfl⟩ := hp
  refine Teq (ws' := wP cy q M th kept far) (lv' := [(0, .ref (q 0)), (1, .int (enc (r)))]) (st' := [.int (enc (if M 6 r = 0 then 1 else 0))]) rfl rfl rfl ?_
  refine tw_if_eq (tgt := 9) X In_b dX5_mendOn_5 (by decide) (fun c5 => ?_) (fun c5 => ?_)
  · skip
    have c5 := b01.mp c5
    refine tw_aload_n X dX5_mendOn_9 0 rfl rfl ?_
    refine tw_iload_n X dX5_mendOn_10 1 rfl rfl ?_
    refine tw_iconst X dX5_mendOn_11 ?_
    refine tw_aload_n X dX5_mendOn_12 0 rfl rfl ?_
    refine tw_iload_n X dX5_mendOn_13 1 rfl rfl ?_
    refine tw_iconst X dX5_mendOn_14 ?_
    refine tw_callV X (As := [.int (enc (r)), .int (enc (0))]) (st := [.int (enc (0)), .int (enc (r)), .ref (q 0)]) vw_X5_63 (m_X5_ro_0 (q := q) M th kept far (r) (by omega)) ([]) ([]) rfl rfl (q0 := 0) rfl rfl rfl ⟨rfl, rfl, Nat.le_of_ble_eq_true rfl, Nat.le_of_ble_eq_true rfl⟩ ⟨Nat.le_of_ble_eq_true rfl, Nat.le_of_ble_eq_true rfl⟩ (Nat.le_of_ble_eq_true rfl) dX5_mendOn_15 (fun v w1 hp => ?_)
    obtain ⟨rfl, rfl⟩ := hp
    refine Teq (ws' := wP cy q M th kept far) (lv' := [(0, .ref (q 0)), (1, .int (enc (r)))]) (st' := [.int (enc (M 6 r)), .int (enc (0)), .int (enc (r)), .ref (q 0)]) rfl rfl rfl ?_
    have b1 := hB 6 r
    refine tw_iconst X dX5_mendOn_18 ?_
    refine tw_isub (z := (M 6 r) - 1) X dX5_mendOn_19 rfl ?_
    refine tw_callV X (As := [.int (enc (r)), .int (enc (0)), .int (enc ((M 6 r) - 1))]) (st := []) vw_X5_90 (m_X5_lay_0 (q := q) M th kept far (r) ((M 6 r) - 1) (by omega)) ([]) ([]) rfl rfl (q0 := 0) rfl rfl rfl ⟨rfl, rfl, Nat.le_of_ble_eq_true rfl, Nat.le_of_ble_eq_true rfl⟩ ⟨Nat.le_of_ble_eq_true rfl, Nat.le_of_ble_eq_true rfl⟩ (Nat.le_of_ble_eq_true rfl) dX5_mendOn_20 (fun v w1 hp => ?_)
    obtain ⟨rfl, rfl⟩ := hp
    refine Teq (ws' := wP cy q (up M 6 (r) ((M 6 r) - 1)) th kept far) (lv' := [(0, .ref (q 0)), (1, .int (enc (r)))]) (st' := []) rfl rfl rfl ?_
    have hB1 : Bd (up M 6 r (M 6 r - 1)) := hB.up (by omega)
    refine tw_aload_n X dX5_mendOn_23 0 rfl rfl ?_
    refine tw_iload_n X dX5_mendOn_24 1 rfl rfl ?_
    refine tw_callV X (As := [.int (enc (r))]) (st := []) vw_X5_70 (m_X5_isOpen (q := q) (up M 6 (r) ((M 6 r) - 1)) th kept far (r) hB1 (by omega)) ([]) ([]) rfl rfl (q0 := 0) rfl rfl rfl ⟨rfl, rfl, Nat.le_of_ble_eq_true rfl, Nat.le_of_ble_eq_true rfl⟩ ⟨Nat.le_of_ble_eq_true rfl, Nat.le_of_ble_eq_true rfl⟩ (Nat.le_of_ble_eq_true rfl) dX5_mendOn_25 (fun v w1 hp => ?_)
    obtain ⟨rfl, rfl⟩ := hp
    refine Teq (ws' := wP cy q (up M 6 (r) ((M 6 r) - 1)) th kept far) (lv' := [(0, .ref (q 0)), (1, .int (enc (r)))]) (st' := [.int (enc (if (up M 6 (r) ((M 6 r) - 1)) 6 r = 0 then 1 else 0))]) rfl rfl rfl ?_
    refine tw_if_ne (tgt := 32) X In_b dX5_mendOn_28 (by decide) (fun c28 => ?_) (fun c28 => ?_)
    · skip
      have c28 := b01n.mp c28
      rw [up_same] at c28
      refine tw_aload_n X dX5_mendOn_32 0 rfl rfl ?_
      refine tw_iload_n X dX5_mendOn_33 1 rfl rfl ?_
      refine tw_iconst X dX5_mendOn_34 ?_
      refine tw_iconst X dX5_mendOn_35 ?_
      refine tw_callV X (As := [.int (enc (r)), .int (enc (1)), .int (enc (0))]) (st := []) vw_X5_90 (m_X5_lay_1 (q := q) (up M 6 (r) ((M 6 r) - 1)) th kept far (r) (0) (by omega)) ([]) ([]) rfl rfl (q0 := 0) rfl rfl rfl ⟨rfl, rfl, Nat.le_of_ble_eq_true rfl, Nat.le_of_ble_eq_true rfl⟩ ⟨Nat.le_of_ble_eq_true rfl, Nat.le_of_ble_eq_true rfl⟩ (Nat.le_of_ble_eq_true rfl) dX5_mendOn_36 (fun v w1 hp => ?_)
      obtain ⟨rfl, rfl⟩ := hp
      refine Teq (ws' := wP cy q (up (up M 6 (r) ((M 6 r) - 1)) 4 (r) (0)) th kept far) (lv' := [(0, .ref (q 0)), (1, .int (enc (r)))]) (st' := []) rfl rfl rfl ?_
      refine tw_aload_n X dX5_mendOn_39 0 rfl rfl ?_
      refine tw_iload_n X dX5_mendOn_40 1 rfl rfl ?_
      refine tw_iconst X dX5_mendOn_41 ?_
      refine tw_iconst X dX5_mendOn_42 ?_
      refine tw_aload_n X dX5_mendOn_43 0 rfl rfl ?_
      refine tw_iload_n X dX5_mendOn_44 1 rfl rfl ?_
      refine tw_iconst X dX5_mendOn_45 ?_
      refine tw_callV X (As := [.int (enc (r)), .int (enc (2))]) (st := [.int (enc (3)), .int (enc (2)), .int (enc (r)), .ref (q 0)]) vw_X5_63 (m_X5_ro_2 (q := q) (up (up M 6 (r) ((M 6 r) - 1)) 4 (r) (0)) th kept far (r) (by omega)) ([]) ([]) rfl rfl (q0 := 0) rfl rfl rfl ⟨rfl, rfl, Nat.le_of_ble_eq_true rfl, Nat.le_of_ble_eq_true rfl⟩ ⟨Nat.le_of_ble_eq_true rfl, Nat.le_of_ble_eq_true rfl⟩ (Nat.le_of_ble_eq_true rfl) dX5_mendOn_46 (fun v w1 hp => ?_)
      obtain ⟨rfl, rfl⟩ := hp
      refine Teq (ws' := wP cy q (up (up M 6 (r) ((M 6 r) - 1)) 4 (r) (0)) th kept far) (lv' := [(0, .ref (q 0)), (1, .int (enc (r)))]) (st' := [.int (enc (M 5 r)), .int (enc (3)), .int (enc (2)), .int (enc (r)), .ref (q 0)]) rfl rfl rfl ?_
      have b2 := hB 5 r
      refine tw_iconst X dX5_mendOn_49 ?_
      refine tw_iadd (z := (M 5 r) + 1) X dX5_mendOn_50 rfl ?_
      refine tw_min (z := if M 5 r < 3 then M 5 r + 1 else M 5 r) X (In_of (by omega) (by omega)) (In_of (by omega) (by omega)) wl_X5_78 wm_min_s wm_i wm_min_c (Nat.le_of_ble_eq_true rfl) (Nat.le_of_ble_eq_true rfl) ⟨Nat.le_of_ble_eq_true rfl, Nat.le_of_ble_eq_true rfl⟩ dX5_mendOn_51 (by split <;> split <;> omega) ?_
      refine tw_callV X (As := [.int (enc (r)), .int (enc (2)), .int (enc (if M 5 r < 3 then M 5 r + 1 else M 5 r))]) (st := []) vw_X5_90 (m_X5_lay_2 (q := q) (up (up M 6 (r) ((M 6 r) - 1)) 4 (r) (0)) th kept far (r) (if M 5 r < 3 then M 5 r + 1 else M 5 r) (by omega)) ([]) ([]) rfl rfl (q0 := 0) rfl rfl rfl ⟨rfl, rfl, Nat.le_of_ble_eq_true rfl, Nat.le_of_ble_eq_true rfl⟩ ⟨Nat.le_of_ble_eq_true rfl, Nat.le_of_ble_eq_true rfl⟩ (Nat.le_of_ble_eq_true rfl) dX5_mendOn_54 (fun v w1 hp => ?_)
      obtain ⟨rfl, rfl⟩ := hp
      refine Teq (ws' := wP cy q (up (up (up M 6 (r) ((M 6 r) - 1)) 4 (r) (0)) 5 (r) (if M 5 r < 3 then M 5 r + 1 else M 5 r)) th kept far) (lv' := [(0, .ref (q 0)), (1, .int (enc (r)))]) (st' := []) rfl rfl rfl ?_
      exact ret _ _ _ dX5_mendOn_57 ⟨rfl, by rw [mend1_open (by omega) c28]; rfl⟩
    · skip
      have c28 := b01.mp c28
      rw [up_same] at c28
      exact ret _ _ _ dX5_mendOn_31 ⟨rfl, by rw [mend1_dec (by omega) c28]⟩
  · skip
    have c5 := b01n.mp c5
    exact ret _ _ _ dX5_mendOn_8 ⟨rfl, by rw [mend1_no (by omega)]⟩
theorem goR_mod (M : MT) (t r : Int) : up (up (up (up (up (up M 7 t (-1)) 8 t r) 10 t (len M r)) 9 t (endF M r (M 7 t))) 12 t (mixD (M 12 t) (M 3 r))) 4 r (M 4 r + 1) = goR M t r := by
  funext k j
  rw [goR_eq]
  simp only [up_eq]
  by_cases a : k = 4 ∧ j = r
  · rw [if_pos a, if_pos a]
  · rw [if_neg a, if_neg a]
    by_cases b : k = 12 ∧ j = t
    · rw [if_pos b, if_pos b]
    · rw [if_neg b, if_neg b]
      by_cases c : k = 9 ∧ j = t
      · rw [if_pos c, if_neg (by omega), if_pos c]
      · rw [if_neg c, if_neg c]
set_option maxRecDepth 100000 in
set_option maxHeartbeats 4000000 in
theorem m_X5_goOn {G : va_G} {cy : ClassId} {q : Nat → Nat} (M : MT) (th : Int) (kept far : Int → Int) (t B : Int) (hF : WF M B) (hB2 : B ≤ 1000000) (ht : 0 ≤ t ∧ t < M 17 0) : Ct G cy yX5_goOn cX5_goOn 4 none ({ frames := 4, cells := 0, slots := 0, locals := 95 } : Room) 0 0 [.ref (q 0), .int (enc (t))] (wP cy q M th kept far) (fun v w1 => v = none ∧ ∃ f', w1 = wP cy q (tour1 M t) th kept f') := by
  refine Ct.ofV (by decide) (Nat.le_of_ble_eq_true rfl) rfl rfl ?_
  intro c X ret
  have hB := hF.bd (by omega)
  have hTI := hF.2.2.2.2.2.2.2.2.2.1 t ht.1 ht.2
  have h172 := hF.2.2.2.2.2.2.1
  unfold TI at hTI
  obtain ⟨w0, w1, w2, w3, w4⟩ := hF.r
  have hdn := dn_no (M := M) (t := t) (by omega)
  have h20 := hF.2.2.2.2.2.2.2.1
  have hto := toward_ok hF.r (M 7 t) (M 11 t)
  have hdr : In (dnM M t) := by have a := hB 13 t; have b := hB 15 t; unfold dnM; split <;> exact In_of (by omega) (by omega)
  refine Tlv (lv' := [(0, .ref (q 0)), (1, .int (enc (t)))]) rfl ?_
  refine tw_aload_n X dX5_goOn_0 0 rfl rfl ?_
  refine tw_iload_n X dX5_goOn_1 1 rfl rfl ?_
  refine tw_iconst X dX5_goOn_2 ?_
  refine tw_callV X (As := [.int (enc (t)), .int (enc (4))]) (st := []) vw_X5_67 (m_X5_to_4 (q := q) M th kept far (t) (by omega)) ([]) ([]) rfl rfl (q0 := 0) rfl rfl rfl ⟨rfl, rfl, Nat.le_of_ble_eq_true rfl, Nat.le_of_ble_eq_true rfl⟩ ⟨Nat.le_of_ble_eq_true rfl, Nat.le_of_ble_eq_true rfl⟩ (Nat.le_of_ble_eq_true rfl) dX5_goOn_3 (fun v w1 hp => ?_)
  obtain ⟨rfl, rfl⟩ := hp
  refine Teq (ws' := wP cy q M th kept far) (lv' := [(0, .ref (q 0)), (1, .int (enc (t)))]) (st' := [.int (enc (dnM M t))]) rfl rfl rfl ?_
  refine tw_iconst X dX5_goOn_6 ?_
  refine tw_icmp_eq (tgt := 11) X hdr (In_of (by omega) (by omega)) dX5_goOn_7 (by decide) (fun c7 => ?_) (fun c7 => ?_)
  · skip
    rw [hdn] at c7
    have J118 : ∀ fj : Int → Int, 0 ≤ outT M t 8 t → T G c ({ frames := 4, cells := 0, slots := 0, locals := 95 } : Room) 4 0 0 (wP cy q (outT M t) th kept fj) 118 [(0, .ref (q 0)), (1, .int (enc (t)))] [] := by
      intro fj h8
      have hFo := hF.k_outT ht c7
      have hBo := hFo.bd (by omega)
      have o7 := hBo 7 t
      have o8 := hBo 8 t
      have o9 := hBo 9 t
      have o10 := hBo 10 t
      have e13 : outT M t 13 = M 13 := outT_fix M t (by omega)
      have e20 : outT M t 20 = M 20 := outT_fix M t (by omega)
      have e20b : outT M t 20 0 = M 20 0 := by rw [e20]
      have e13b : outT M t 13 t = M 13 t := by rw [e13]
      have e15 := outT_15 M t
      have e11 : outT M t 11 = M 11 := outT_fix M t (by omega)
      refine tw_aload_n X dX5_goOn_118 0 rfl rfl ?_
      refine tw_iload_n X dX5_goOn_119 1 rfl rfl ?_
      refine tw_iconst X dX5_goOn_120 ?_
      refine tw_aload_n X dX5_goOn_121 0 rfl rfl ?_
      refine tw_iload_n X dX5_goOn_122 1 rfl rfl ?_
      refine tw_iconst X dX5_goOn_123 ?_
      refine tw_callV X (As := [.int (enc (t)), .int (enc (2))]) (st := [.int (enc (2)), .int (enc (t)), .ref (q 0)]) vw_X5_67 (m_X5_to_2 (q := q) (outT M t) th kept fj (t) (by omega)) ([]) ([]) rfl rfl (q0 := 0) rfl rfl rfl ⟨rfl, rfl, Nat.le_of_ble_eq_true rfl, Nat.le_of_ble_eq_true rfl⟩ ⟨Nat.le_of_ble_eq_true rfl, Nat.le_of_ble_eq_true rfl⟩ (Nat.le_of_ble_eq_true rfl) dX5_goOn_124 (fun v w1 hp => ?_)
      obtain ⟨rfl, rfl⟩ := hp
      refine Teq (ws' := wP cy q (outT M t) th kept fj) (lv' := [(0, .ref (q 0)), (1, .int (enc (t)))]) (st' := [.int (enc ((outT M t) 10 t)), .int (enc (2)), .int (enc (t)), .ref (q 0)]) rfl rfl rfl ?_
      have b1 := hBo 10 t
      refine tw_iconst X dX5_goOn_127 ?_
      refine tw_isub (z := ((outT M t) 10 t) - 1) X dX5_goOn_128 rfl ?_
      refine tw_callV X (As := [.int (enc (t)), .int (enc (2)), .int (enc (((outT M t) 10 t) - 1))]) (st := []) vw_X5_97 (m_X5_let_2 (q := q) (outT M t) th kept fj (t) (((outT M t) 10 t) - 1) (by omega)) ([]) ([]) rfl rfl (q0 := 0) rfl rfl rfl ⟨rfl, rfl, Nat.le_of_ble_eq_true rfl, Nat.le_of_ble_eq_true rfl⟩ ⟨Nat.le_of_ble_eq_true rfl, Nat.le_of_ble_eq_true rfl⟩ (Nat.le_of_ble_eq_true rfl) dX5_goOn_129 (fun v w1 hp => ?_)
      obtain ⟨rfl, rfl⟩ := hp
      refine Teq (ws' := wP cy q (up (outT M t) 10 (t) (((outT M t) 10 t) - 1)) th kept fj) (lv' := [(0, .ref (q 0)), (1, .int (enc (t)))]) (st' := []) rfl rfl rfl ?_
      refine tw_aload_n X dX5_goOn_132 0 rfl rfl ?_
      refine tw_iload_n X dX5_goOn_133 1 rfl rfl ?_
      refine tw_iconst X dX5_goOn_134 ?_
      refine tw_callV X (As := [.int (enc (t)), .int (enc (2))]) (st := []) vw_X5_67 (m_X5_to_2 (q := q) (up (outT M t) 10 (t) (((outT M t) 10 t) - 1)) th kept fj (t) (by omega)) ([]) ([]) rfl rfl (q0 := 0) rfl rfl rfl ⟨rfl, rfl, Nat.le_of_ble_eq_true rfl, Nat.le_of_ble_eq_true rfl⟩ ⟨Nat.le_of_ble_eq_true rfl, Nat.le_of_ble_eq_true rfl⟩ (Nat.le_of_ble_eq_true rfl) dX5_goOn_135 (fun v w1 hp => ?_)
      obtain ⟨rfl, rfl⟩ := hp
      refine Teq (ws' := wP cy q (up (outT M t) 10 (t) (((outT M t) 10 t) - 1)) th kept fj) (lv' := [(0, .ref (q 0)), (1, .int (enc (t)))]) (st' := [.int (enc (((outT M t) 10 t) - 1))]) rfl rfl (by rw [up_same]; rfl) ?_
      refine tw_if_le (tgt := 142) X (In_of (by omega) (by omega)) dX5_goOn_138 (by decide) (fun c138 => ?_) (fun c138 => ?_)
      · skip
        refine tw_aload_n X dX5_goOn_142 0 rfl rfl ?_
        refine tw_iload_n X dX5_goOn_143 1 rfl rfl ?_
        refine tw_iconst X dX5_goOn_144 ?_
        refine tw_aload_n X dX5_goOn_145 0 rfl rfl ?_
        refine tw_iload_n X dX5_goOn_146 1 rfl rfl ?_
        refine tw_iconst X dX5_goOn_147 ?_
        refine tw_callV X (As := [.int (enc (t)), .int (enc (5))]) (st := [.int (enc (0)), .int (enc (t)), .ref (q 0)]) vw_X5_67 (m_X5_to_5 (q := q) (up (outT M t) 10 (t) (((outT M t) 10 t) - 1)) th kept fj (t) (by omega)) ([]) ([]) rfl rfl (q0 := 0) rfl rfl rfl ⟨rfl, rfl, Nat.le_of_ble_eq_true rfl, Nat.le_of_ble_eq_true rfl⟩ ⟨Nat.le_of_ble_eq_true rfl, Nat.le_of_ble_eq_true rfl⟩ (Nat.le_of_ble_eq_true rfl) dX5_goOn_148 (fun v w1 hp => ?_)
        obtain ⟨rfl, rfl⟩ := hp
        refine Teq (ws' := wP cy q (up (outT M t) 10 (t) (((outT M t) 10 t) - 1)) th kept fj) (lv' := [(0, .ref (q 0)), (1, .int (enc (t)))]) (st' := [.int (enc ((outT M t) 9 t)), .int (enc (0)), .int (enc (t)), .ref (q 0)]) rfl rfl rfl ?_
        have b2 := hBo 9 t
        refine tw_callV X (As := [.int (enc (t)), .int (enc (0)), .int (enc ((outT M t) 9 t))]) (st := []) vw_X5_97 (m_X5_let_0 (q := q) (up (outT M t) 10 (t) (((outT M t) 10 t) - 1)) th kept fj (t) ((outT M t) 9 t) (by omega)) ([]) ([]) rfl rfl (q0 := 0) rfl rfl rfl ⟨rfl, rfl, Nat.le_of_ble_eq_true rfl, Nat.le_of_ble_eq_true rfl⟩ ⟨Nat.le_of_ble_eq_true rfl, Nat.le_of_ble_eq_true rfl⟩ (Nat.le_of_ble_eq_true rfl) dX5_goOn_151 (fun v w1 hp => ?_)
        obtain ⟨rfl, rfl⟩ := hp
        refine Teq (ws' := wP cy q (up (up (outT M t) 10 (t) (((outT M t) 10 t) - 1)) 7 (t) ((outT M t) 9 t)) th kept fj) (lv' := [(0, .ref (q 0)), (1, .int (enc (t)))]) (st' := []) rfl rfl rfl ?_
        refine tw_aload_n X dX5_goOn_154 0 rfl rfl ?_
        refine tw_iload_n X dX5_goOn_155 1 rfl rfl ?_
        refine tw_iconst X dX5_goOn_156 ?_
        refine tw_iconst X dX5_goOn_157 ?_
        refine tw_callV X (As := [.int (enc (t)), .int (enc (1)), .int (enc (-1))]) (st := []) vw_X5_97 (m_X5_let_1 (q := q) (up (up (outT M t) 10 (t) (((outT M t) 10 t) - 1)) 7 (t) ((outT M t) 9 t)) th kept fj (t) (-1) (by omega)) ([]) ([]) rfl rfl (q0 := 0) rfl rfl rfl ⟨rfl, rfl, Nat.le_of_ble_eq_true rfl, Nat.le_of_ble_eq_true rfl⟩ ⟨Nat.le_of_ble_eq_true rfl, Nat.le_of_ble_eq_true rfl⟩ (Nat.le_of_ble_eq_true rfl) dX5_goOn_158 (fun v w1 hp => ?_)
        obtain ⟨rfl, rfl⟩ := hp
        refine Teq (ws' := wP cy q (up (up (up (outT M t) 10 (t) (((outT M t) 10 t) - 1)) 7 (t) ((outT M t) 9 t)) 8 (t) (-1)) th kept fj) (lv' := [(0, .ref (q 0)), (1, .int (enc (t)))]) (st' := []) rfl rfl rfl ?_
        refine tw_aload_n X dX5_goOn_161 0 rfl rfl ?_
        refine tw_iload_n X dX5_goOn_162 1 rfl rfl ?_
        refine tw_iconst X dX5_goOn_163 ?_
        refine tw_callV X (As := [.int (enc (t)), .int (enc (5))]) (st := []) vw_X5_67 (m_X5_to_5 (q := q) (up (up (up (outT M t) 10 (t) (((outT M t) 10 t) - 1)) 7 (t) ((outT M t) 9 t)) 8 (t) (-1)) th kept fj (t) (by omega)) ([]) ([]) rfl rfl (q0 := 0) rfl rfl rfl ⟨rfl, rfl, Nat.le_of_ble_eq_true rfl, Nat.le_of_ble_eq_true rfl⟩ ⟨Nat.le_of_ble_eq_true rfl, Nat.le_of_ble_eq_true rfl⟩ (Nat.le_of_ble_eq_true rfl) dX5_goOn_164 (fun v w1 hp => ?_)
        obtain ⟨rfl, rfl⟩ := hp
        refine Teq (ws' := wP cy q (up (up (up (outT M t) 10 (t) (((outT M t) 10 t) - 1)) 7 (t) ((outT M t) 9 t)) 8 (t) (-1)) th kept fj) (lv' := [(0, .ref (q 0)), (1, .int (enc (t)))]) (st' := [.int (enc ((outT M t) 9 t))]) rfl rfl rfl ?_
        have b3 := hBo 9 t
        refine tw_aload_n X dX5_goOn_167 0 rfl rfl ?_
        refine gf_X5_22 X (v := .ref (q 5)) 0 rfl rfl dX5_goOn_168 ?_
        refine tw_iload_n X dX5_goOn_171 1 rfl rfl ?_
        refine tw_iald X (N := 12) (f := ((outT M t) 11)) 5 rfl (by decide) (by omega) dX5_goOn_172 ?_
        refine Tst (st' := [.int (enc ((outT M t) 11 t)), .int (enc ((outT M t) 9 t))]) rfl ?_
        have b4 := hBo 11 t
        refine tw_icmp_ne (tgt := 190) X (In_of (by omega) (by omega)) (In_of (by omega) (by omega)) dX5_goOn_173 (by decide) (fun c173 => ?_) (fun c173 => ?_)
        · skip
          exact ret _ _ _ dX5_goOn_190 (by first | exact ⟨rfl, fj, by rw [tour1_go (by omega)]; unfold walkT; rw [if_neg (by omega), if_neg (by omega), if_neg c173]⟩ | exact ⟨rfl, fj, by rw [tour1_go (by omega)]; unfold walkT; rw [if_neg (by omega), if_neg (by omega), if_pos c173, ← e20b]; rfl⟩)
        · skip
          refine tw_aload_n X dX5_goOn_176 0 rfl rfl ?_
          refine tw_iload_n X dX5_goOn_177 1 rfl rfl ?_
          refine tw_iconst X dX5_goOn_178 ?_
          refine tw_aload_n X dX5_goOn_179 0 rfl rfl ?_
          refine gf_X5_31 X (v := .ref (q 8)) 0 rfl rfl dX5_goOn_180 ?_
          refine tw_iconst X dX5_goOn_183 ?_
          refine tw_iald X (N := 133) (f := (pack (up (up (up (outT M t) 10 (t) (((outT M t) 10 t) - 1)) 7 (t) ((outT M t) 9 t)) 8 (t) (-1)))) 8 rfl (by decide) (by omega) dX5_goOn_184 ?_
          refine Tst (st' := [.int (enc ((outT M t) 20 0)), .int (enc (4)), .int (enc (t)), .ref (q 0)]) rfl ?_
          have b5 := hBo 20 0
          refine tw_iconst X dX5_goOn_185 ?_
          refine tw_iadd (z := ((outT M t) 20 0) + 1) X dX5_goOn_186 rfl ?_
          refine tw_callV X (As := [.int (enc (t)), .int (enc (4)), .int (enc (((outT M t) 20 0) + 1))]) (st := []) vw_X5_97 (m_X5_let_4 (q := q) (up (up (up (outT M t) 10 (t) (((outT M t) 10 t) - 1)) 7 (t) ((outT M t) 9 t)) 8 (t) (-1)) th kept fj (t) (((outT M t) 20 0) + 1) (by omega) (by show 0 ≤ outT M t 20 0 + 1 - outT M t 13 t; rw [e13b, e20b]; omega)) ([]) ([]) rfl rfl (q0 := 0) rfl rfl rfl ⟨rfl, rfl, Nat.le_of_ble_eq_true rfl, Nat.le_of_ble_eq_true rfl⟩ ⟨Nat.le_of_ble_eq_true rfl, Nat.le_of_ble_eq_true rfl⟩ (Nat.le_of_ble_eq_true rfl) dX5_goOn_187 (fun v w1 hp => ?_)
          obtain ⟨rfl, rfl⟩ := hp
          refine Teq (ws' := wP cy q (up (up (up (up (outT M t) 10 (t) (((outT M t) 10 t) - 1)) 7 (t) ((outT M t) 9 t)) 8 (t) (-1)) 15 (t) (((outT M t) 20 0) + 1 - (outT M t) 13 t)) th kept fj) (lv' := [(0, .ref (q 0)), (1, .int (enc (t)))]) (st' := []) rfl rfl rfl ?_
          exact ret _ _ _ dX5_goOn_190 (by first | exact ⟨rfl, fj, by rw [tour1_go (by omega)]; unfold walkT; rw [if_neg (by omega), if_neg (by omega), if_neg c173]⟩ | exact ⟨rfl, fj, by rw [tour1_go (by omega)]; unfold walkT; rw [if_neg (by omega), if_neg (by omega), if_pos c173, ← e20b]; rfl⟩)
      · skip
        exact ret _ _ _ dX5_goOn_141 ⟨rfl, fj, by rw [tour1_go (by omega)]; unfold walkT; rw [if_neg (by omega), if_pos c138]⟩
    refine tw_aload_n X dX5_goOn_11 0 rfl rfl ?_
    refine tw_iload_n X dX5_goOn_12 1 rfl rfl ?_
    refine tw_iconst X dX5_goOn_13 ?_
    refine tw_callV X (As := [.int (enc (t)), .int (enc (1))]) (st := []) vw_X5_67 (m_X5_to_1 (q := q) M th kept far (t) (by omega)) ([]) ([]) rfl rfl (q0 := 0) rfl rfl rfl ⟨rfl, rfl, Nat.le_of_ble_eq_true rfl, Nat.le_of_ble_eq_true rfl⟩ ⟨Nat.le_of_ble_eq_true rfl, Nat.le_of_ble_eq_true rfl⟩ (Nat.le_of_ble_eq_true rfl) dX5_goOn_14 (fun v w1 hp => ?_)
    obtain ⟨rfl, rfl⟩ := hp
    refine Teq (ws' := wP cy q M th kept far) (lv' := [(0, .ref (q 0)), (1, .int (enc (t)))]) (st' := [.int (enc (M 8 t))]) rfl rfl rfl ?_
    have b6 := hB 8 t
    refine tw_iconst X dX5_goOn_17 ?_
    refine tw_icmp_ne (tgt := 118) X (In_of (by omega) (by omega)) (In_of (by omega) (by omega)) dX5_goOn_18 (by decide) (fun c18 => ?_) (fun c18 => ?_)
    · skip
      have eO : outT M t = M := by unfold outT; rw [if_pos (by omega)]
      have h8 : 0 ≤ outT M t 8 t := by rw [eO]; omega
      refine Tsub (lv' := [(0, .ref (q 0)), (1, .int (enc (t)))]) [0, 1] rfl ?_
      refine Tws (ws' := wP cy q (outT M t) th kept far) (by rw [eO]) ?_
      exact J118 far h8
    · skip
      refine tw_aload_n X dX5_goOn_21 0 rfl rfl ?_
      refine tw_iload_n X dX5_goOn_22 1 rfl rfl ?_
      refine tw_iconst X dX5_goOn_23 ?_
      refine tw_callV X (As := [.int (enc (t)), .int (enc (0))]) (st := []) vw_X5_67 (m_X5_to_0 (q := q) M th kept far (t) (by omega)) ([]) ([]) rfl rfl (q0 := 0) rfl rfl rfl ⟨rfl, rfl, Nat.le_of_ble_eq_true rfl, Nat.le_of_ble_eq_true rfl⟩ ⟨Nat.le_of_ble_eq_true rfl, Nat.le_of_ble_eq_true rfl⟩ (Nat.le_of_ble_eq_true rfl) dX5_goOn_24 (fun v w1 hp => ?_)
      obtain ⟨rfl, rfl⟩ := hp
      refine Teq (ws' := wP cy q M th kept far) (lv' := [(0, .ref (q 0)), (1, .int (enc (t)))]) (st' := [.int (enc (M 7 t))]) rfl rfl rfl ?_
      have b7 := hB 7 t
      refine tw_istore_n (lv' := [(2, .int (enc (M 7 t))), (0, .ref (q 0)), (1, .int (enc (t)))]) X dX5_goOn_27 rfl (by decide) rfl ?_
      refine tw_aload_n X dX5_goOn_28 1 rfl rfl ?_
      refine tw_iload_n X dX5_goOn_29 0 rfl rfl ?_
      refine tw_aload_n X dX5_goOn_30 1 rfl rfl ?_
      refine gf_X5_22 X (v := .ref (q 5)) 0 rfl rfl dX5_goOn_31 ?_
      refine tw_iload_n X dX5_goOn_34 2 rfl rfl ?_
      refine tw_iald X (N := 12) (f := (M 11)) 5 rfl (by decide) (by omega) dX5_goOn_35 ?_
      refine Tst (st' := [.int (enc (M 11 t)), .int (enc (M 7 t)), .ref (q 0)]) rfl ?_
      have b8 := hB 11 t
      refine tw_callV X (As := [.int (enc (M 7 t)), .int (enc (M 11 t))]) (st := []) vw_X5_94 (m_X5_takes (q := q) M th kept far (M 7 t) (M 11 t) hF.r hB (by omega) (by omega)) ([]) ([]) rfl rfl (q0 := 0) rfl rfl rfl ⟨rfl, rfl, Nat.le_of_ble_eq_true rfl, Nat.le_of_ble_eq_true rfl⟩ ⟨Nat.le_of_ble_eq_true rfl, Nat.le_of_ble_eq_true rfl⟩ (Nat.le_of_ble_eq_true rfl) dX5_goOn_36 (fun v w1 hp => ?_)
      obtain ⟨rfl, fm, rfl⟩ := hp
      refine Teq (ws' := wP cy q M th kept fm) (lv' := [(2, .int (enc (M 7 t))), (0, .ref (q 0)), (1, .int (enc (t)))]) (st' := [.int (enc (if (M 7 t) = (M 11 t) then -1 else toward M (M 7 t) (M 11 t)))]) rfl rfl rfl ?_
      refine Tst (st' := [.int (enc (toward M (M 7 t) (M 11 t)))]) (by rw [if_neg (show M 7 t ≠ M 11 t by omega)]) ?_
      refine tw_istore_n (lv' := [(3, .int (enc (toward M (M 7 t) (M 11 t)))), (2, .int (enc (M 7 t))), (0, .ref (q 0)), (1, .int (enc (t)))]) X dX5_goOn_39 rfl (by decide) rfl ?_
      refine tw_iload_n X dX5_goOn_40 0 rfl rfl ?_
      refine tw_iconst X dX5_goOn_41 ?_
      refine tw_icmp_ne (tgt := 46) X (In_of (by omega) (by omega)) (In_of (by omega) (by omega)) dX5_goOn_42 (by decide) (fun c42 => ?_) (fun c42 => ?_)
      · skip
        refine tw_aload_n X dX5_goOn_46 2 rfl rfl ?_
        refine tw_iload_n X dX5_goOn_47 3 rfl rfl ?_
        refine tw_iconst X dX5_goOn_48 ?_
        refine tw_iconst X dX5_goOn_49 ?_
        refine tw_callV X (As := [.int (enc (t)), .int (enc (0)), .int (enc (-1))]) (st := []) vw_X5_97 (m_X5_let_0 (q := q) M th kept fm (t) (-1) (by omega)) ([]) ([]) rfl rfl (q0 := 0) rfl rfl rfl ⟨rfl, rfl, Nat.le_of_ble_eq_true rfl, Nat.le_of_ble_eq_true rfl⟩ ⟨Nat.le_of_ble_eq_true rfl, Nat.le_of_ble_eq_true rfl⟩ (Nat.le_of_ble_eq_true rfl) dX5_goOn_50 (fun v w1 hp => ?_)
        obtain ⟨rfl, rfl⟩ := hp
        refine Teq (ws' := wP cy q (up M 7 (t) (-1)) th kept fm) (lv' := [(3, .int (enc (toward M (M 7 t) (M 11 t)))), (2, .int (enc (M 7 t))), (0, .ref (q 0)), (1, .int (enc (t)))]) (st' := []) rfl rfl rfl ?_
        refine tw_aload_n X dX5_goOn_53 2 rfl rfl ?_
        refine tw_iload_n X dX5_goOn_54 3 rfl rfl ?_
        refine tw_iconst X dX5_goOn_55 ?_
        refine tw_iload_n X dX5_goOn_56 0 rfl rfl ?_
        refine tw_callV X (As := [.int (enc (t)), .int (enc (1)), .int (enc (toward M (M 7 t) (M 11 t)))]) (st := []) vw_X5_97 (m_X5_let_1 (q := q) (up M 7 (t) (-1)) th kept fm (t) (toward M (M 7 t) (M 11 t)) (by omega)) ([]) ([]) rfl rfl (q0 := 0) rfl rfl rfl ⟨rfl, rfl, Nat.le_of_ble_eq_true rfl, Nat.le_of_ble_eq_true rfl⟩ ⟨Nat.le_of_ble_eq_true rfl, Nat.le_of_ble_eq_true rfl⟩ (Nat.le_of_ble_eq_true rfl) dX5_goOn_57 (fun v w1 hp => ?_)
        obtain ⟨rfl, rfl⟩ := hp
        refine Teq (ws' := wP cy q (up (up M 7 (t) (-1)) 8 (t) (toward M (M 7 t) (M 11 t))) th kept fm) (lv' := [(3, .int (enc (toward M (M 7 t) (M 11 t)))), (2, .int (enc (M 7 t))), (0, .ref (q 0)), (1, .int (enc (t)))]) (st' := []) rfl rfl rfl ?_
        have hl := hF.r.ln (r := toward M (M 7 t) (M 11 t)) (by omega) (by omega)
        have hee := endF_rng hF.r (r := toward M (M 7 t) (M 11 t)) (a := M 7 t) (by omega) (by omega) (by omega)
        have heo := endF_ok hF.r (r := toward M (M 7 t) (M 11 t)) (a := M 7 t) (by omega) (by omega) (by omega)
        refine tw_aload_n X dX5_goOn_60 2 rfl rfl ?_
        refine tw_iload_n X dX5_goOn_61 3 rfl rfl ?_
        refine tw_iconst X dX5_goOn_62 ?_
        refine tw_aload_n X dX5_goOn_63 2 rfl rfl ?_
        refine tw_iload_n X dX5_goOn_64 0 rfl rfl ?_
        refine tw_callV X (As := [.int (enc (toward M (M 7 t) (M 11 t)))]) (st := [.int (enc (2)), .int (enc (t)), .ref (q 0)]) vw_X5_74 (m_X5_longNow (q := q) (up (up M 7 (t) (-1)) 8 (t) (toward M (M 7 t) (M 11 t))) th kept fm (toward M (M 7 t) (M 11 t)) (by omega)) ([]) ([]) rfl rfl (q0 := 0) rfl rfl rfl ⟨rfl, rfl, Nat.le_of_ble_eq_true rfl, Nat.le_of_ble_eq_true rfl⟩ ⟨Nat.le_of_ble_eq_true rfl, Nat.le_of_ble_eq_true rfl⟩ (Nat.le_of_ble_eq_true rfl) dX5_goOn_65 (fun v w1 hp => ?_)
        obtain ⟨rfl, rfl⟩ := hp
        refine Teq (ws' := wP cy q (up (up M 7 (t) (-1)) 8 (t) (toward M (M 7 t) (M 11 t))) th kept fm) (lv' := [(3, .int (enc (toward M (M 7 t) (M 11 t)))), (2, .int (enc (M 7 t))), (0, .ref (q 0)), (1, .int (enc (t)))]) (st' := [.int (enc (len M (toward M (M 7 t) (M 11 t)))), .int (enc (2)), .int (enc (t)), .ref (q 0)]) rfl rfl rfl ?_
        refine tw_callV X (As := [.int (enc (t)), .int (enc (2)), .int (enc (len M (toward M (M 7 t) (M 11 t))))]) (st := []) vw_X5_97 (m_X5_let_2 (q := q) (up (up M 7 (t) (-1)) 8 (t) (toward M (M 7 t) (M 11 t))) th kept fm (t) (len M (toward M (M 7 t) (M 11 t))) (by omega)) ([]) ([]) rfl rfl (q0 := 0) rfl rfl rfl ⟨rfl, rfl, Nat.le_of_ble_eq_true rfl, Nat.le_of_ble_eq_true rfl⟩ ⟨Nat.le_of_ble_eq_true rfl, Nat.le_of_ble_eq_true rfl⟩ (Nat.le_of_ble_eq_true rfl) dX5_goOn_68 (fun v w1 hp => ?_)
        obtain ⟨rfl, rfl⟩ := hp
        refine Teq (ws' := wP cy q (up (up (up M 7 (t) (-1)) 8 (t) (toward M (M 7 t) (M 11 t))) 10 (t) (len M (toward M (M 7 t) (M 11 t)))) th kept fm) (lv' := [(3, .int (enc (toward M (M 7 t) (M 11 t)))), (2, .int (enc (M 7 t))), (0, .ref (q 0)), (1, .int (enc (t)))]) (st' := []) rfl rfl rfl ?_
        refine tw_aload_n X dX5_goOn_71 2 rfl rfl ?_
        refine tw_iload_n X dX5_goOn_72 3 rfl rfl ?_
        refine tw_iconst X dX5_goOn_73 ?_
        refine tw_aload_n X dX5_goOn_74 2 rfl rfl ?_
        refine tw_iload_n X dX5_goOn_75 0 rfl rfl ?_
        refine tw_iload_n X dX5_goOn_76 1 rfl rfl ?_
        refine tw_callV X (As := [.int (enc (toward M (M 7 t) (M 11 t))), .int (enc (M 7 t))]) (st := [.int (enc (5)), .int (enc (t)), .ref (q 0)]) vw_X5_87 (m_X5_end (q := q) (up (up (up M 7 (t) (-1)) 8 (t) (toward M (M 7 t) (M 11 t))) 10 (t) (len M (toward M (M 7 t) (M 11 t)))) th kept fm (toward M (M 7 t) (M 11 t)) (M 7 t) (((hB.up (by omega)).up (by omega)).up (by omega)) (by omega) (by omega)) ([]) ([]) rfl rfl (q0 := 0) rfl rfl rfl ⟨rfl, rfl, Nat.le_of_ble_eq_true rfl, Nat.le_of_ble_eq_true rfl⟩ ⟨Nat.le_of_ble_eq_true rfl, Nat.le_of_ble_eq_true rfl⟩ (Nat.le_of_ble_eq_true rfl) dX5_goOn_77 (fun v w1 hp => ?_)
        obtain ⟨rfl, rfl⟩ := hp
        refine Teq (ws' := wP cy q (up (up (up M 7 (t) (-1)) 8 (t) (toward M (M 7 t) (M 11 t))) 10 (t) (len M (toward M (M 7 t) (M 11 t)))) th kept fm) (lv' := [(3, .int (enc (toward M (M 7 t) (M 11 t)))), (2, .int (enc (M 7 t))), (0, .ref (q 0)), (1, .int (enc (t)))]) (st' := [.int (enc (endG M (toward M (M 7 t) (M 11 t)) (M 7 t))), .int (enc (5)), .int (enc (t)), .ref (q 0)]) rfl rfl rfl ?_
        refine Tst (st' := [.int (enc (endF M (toward M (M 7 t) (M 11 t)) (M 7 t))), .int (enc (5)), .int (enc (t)), .ref (q 0)]) (by rw [endG_F (by omega)]) ?_
        refine tw_callV X (As := [.int (enc (t)), .int (enc (5)), .int (enc (endF M (toward M (M 7 t) (M 11 t)) (M 7 t)))]) (st := []) vw_X5_97 (m_X5_let_5 (q := q) (up (up (up M 7 (t) (-1)) 8 (t) (toward M (M 7 t) (M 11 t))) 10 (t) (len M (toward M (M 7 t) (M 11 t)))) th kept fm (t) (endF M (toward M (M 7 t) (M 11 t)) (M 7 t)) (by omega)) ([]) ([]) rfl rfl (q0 := 0) rfl rfl rfl ⟨rfl, rfl, Nat.le_of_ble_eq_true rfl, Nat.le_of_ble_eq_true rfl⟩ ⟨Nat.le_of_ble_eq_true rfl, Nat.le_of_ble_eq_true rfl⟩ (Nat.le_of_ble_eq_true rfl) dX5_goOn_80 (fun v w1 hp => ?_)
        obtain ⟨rfl, rfl⟩ := hp
        refine Teq (ws' := wP cy q (up (up (up (up M 7 (t) (-1)) 8 (t) (toward M (M 7 t) (M 11 t))) 10 (t) (len M (toward M (M 7 t) (M 11 t)))) 9 (t) (endF M (toward M (M 7 t) (M 11 t)) (M 7 t))) th kept fm) (lv' := [(3, .int (enc (toward M (M 7 t) (M 11 t)))), (2, .int (enc (M 7 t))), (0, .ref (q 0)), (1, .int (enc (t)))]) (st' := []) rfl rfl rfl ?_
        refine tw_aload_n X dX5_goOn_83 2 rfl rfl ?_
        refine tw_iload_n X dX5_goOn_84 3 rfl rfl ?_
        refine tw_iconst X dX5_goOn_85 ?_
        refine tw_aload_n X dX5_goOn_86 2 rfl rfl ?_
        refine tw_iload_n X dX5_goOn_87 3 rfl rfl ?_
        refine tw_iconst X dX5_goOn_88 ?_
        refine tw_callV X (As := [.int (enc (t)), .int (enc (3))]) (st := [.int (enc (3)), .int (enc (t)), .ref (q 0)]) vw_X5_67 (m_X5_to_3 (q := q) (up (up (up (up M 7 (t) (-1)) 8 (t) (toward M (M 7 t) (M 11 t))) 10 (t) (len M (toward M (M 7 t) (M 11 t)))) 9 (t) (endF M (toward M (M 7 t) (M 11 t)) (M 7 t))) th kept fm (t) (by omega)) ([]) ([]) rfl rfl (q0 := 0) rfl rfl rfl ⟨rfl, rfl, Nat.le_of_ble_eq_true rfl, Nat.le_of_ble_eq_true rfl⟩ ⟨Nat.le_of_ble_eq_true rfl, Nat.le_of_ble_eq_true rfl⟩ (Nat.le_of_ble_eq_true rfl) dX5_goOn_89 (fun v w1 hp => ?_)
        obtain ⟨rfl, rfl⟩ := hp
        refine Teq (ws' := wP cy q (up (up (up (up M 7 (t) (-1)) 8 (t) (toward M (M 7 t) (M 11 t))) 10 (t) (len M (toward M (M 7 t) (M 11 t)))) 9 (t) (endF M (toward M (M 7 t) (M 11 t)) (M 7 t))) th kept fm) (lv' := [(3, .int (enc (toward M (M 7 t) (M 11 t)))), (2, .int (enc (M 7 t))), (0, .ref (q 0)), (1, .int (enc (t)))]) (st' := [.int (enc (M 12 t)), .int (enc (3)), .int (enc (t)), .ref (q 0)]) rfl rfl rfl ?_
        have b9 := hB 12 t
        refine tw_aload_n X dX5_goOn_92 2 rfl rfl ?_
        refine gf_X5_19 X (v := .ref (q 4)) 0 rfl rfl dX5_goOn_93 ?_
        refine tw_iload_n X dX5_goOn_96 0 rfl rfl ?_
        refine tw_iald X (N := 20) (f := (M 3)) 4 rfl (by decide) (by omega) dX5_goOn_97 ?_
        refine Tst (st' := [.int (enc (M 3 (toward M (M 7 t) (M 11 t)))), .int (enc (M 12 t)), .int (enc (3)), .int (enc (t)), .ref (q 0)]) rfl ?_
        have b10 := hB 3 ((toward M (M 7 t) (M 11 t)))
        refine tw_callS X (As := [.int (enc (M 12 t)), .int (enc (M 3 (toward M (M 7 t) (M 11 t))))]) (st := [.int (enc (3)), .int (enc (t)), .ref (q 0)]) sw_X5_100 (m_X5_mix (M 12 t) (M 3 (toward M (M 7 t) (M 11 t))) (by omega) (hF.2.2.2.2.1 (toward M (M 7 t) (M 11 t)) (by omega) (by omega))) ([]) (wP cy q (up (up (up (up M 7 (t) (-1)) 8 (t) (toward M (M 7 t) (M 11 t))) 10 (t) (len M (toward M (M 7 t) (M 11 t)))) 9 (t) (endF M (toward M (M 7 t) (M 11 t)) (M 7 t))) th kept fm) rfl rfl rfl ⟨rfl, rfl, Nat.le_of_ble_eq_true rfl, Nat.le_of_ble_eq_true rfl⟩ ⟨Nat.le_of_ble_eq_true rfl, Nat.le_of_ble_eq_true rfl⟩ (Nat.le_of_ble_eq_true rfl) dX5_goOn_98 (fun v w1 hp => ?_)
        obtain ⟨rfl, rfl⟩ := hp
        refine Teq (ws' := wP cy q (up (up (up (up M 7 (t) (-1)) 8 (t) (toward M (M 7 t) (M 11 t))) 10 (t) (len M (toward M (M 7 t) (M 11 t)))) 9 (t) (endF M (toward M (M 7 t) (M 11 t)) (M 7 t))) th kept fm) (lv' := [(3, .int (enc (toward M (M 7 t) (M 11 t)))), (2, .int (enc (M 7 t))), (0, .ref (q 0)), (1, .int (enc (t)))]) (st' := [.int (enc (mixD (M 12 t) (M 3 (toward M (M 7 t) (M 11 t))))), .int (enc (3)), .int (enc (t)), .ref (q 0)]) rfl rfl rfl ?_
        refine tw_callV X (As := [.int (enc (t)), .int (enc (3)), .int (enc (mixD (M 12 t) (M 3 (toward M (M 7 t) (M 11 t)))))]) (st := []) vw_X5_97 (m_X5_let_3 (q := q) (up (up (up (up M 7 (t) (-1)) 8 (t) (toward M (M 7 t) (M 11 t))) 10 (t) (len M (toward M (M 7 t) (M 11 t)))) 9 (t) (endF M (toward M (M 7 t) (M 11 t)) (M 7 t))) th kept fm (t) (mixD (M 12 t) (M 3 (toward M (M 7 t) (M 11 t)))) (by omega)) ([]) ([]) rfl rfl (q0 := 0) rfl rfl rfl ⟨rfl, rfl, Nat.le_of_ble_eq_true rfl, Nat.le_of_ble_eq_true rfl⟩ ⟨Nat.le_of_ble_eq_true rfl, Nat.le_of_ble_eq_true rfl⟩ (Nat.le_of_ble_eq_true rfl) dX5_goOn_101 (fun v w1 hp => ?_)
        obtain ⟨rfl, rfl⟩ := hp
        refine Teq (ws' := wP cy q (up (up (up (up (up M 7 (t) (-1)) 8 (t) (toward M (M 7 t) (M 11 t))) 10 (t) (len M (toward M (M 7 t) (M 11 t)))) 9 (t) (endF M (toward M (M 7 t) (M 11 t)) (M 7 t))) 12 (t) (mixD (M 12 t) (M 3 (toward M (M 7 t) (M 11 t))))) th kept fm) (lv' := [(3, .int (enc (toward M (M 7 t) (M 11 t)))), (2, .int (enc (M 7 t))), (0, .ref (q 0)), (1, .int (enc (t)))]) (st' := []) rfl rfl rfl ?_
        refine tw_aload_n X dX5_goOn_104 2 rfl rfl ?_
        refine tw_iload_n X dX5_goOn_105 0 rfl rfl ?_
        refine tw_iconst X dX5_goOn_106 ?_
        refine tw_aload_n X dX5_goOn_107 2 rfl rfl ?_
        refine tw_iload_n X dX5_goOn_108 0 rfl rfl ?_
        refine tw_iconst X dX5_goOn_109 ?_
        refine tw_callV X (As := [.int (enc (toward M (M 7 t) (M 11 t))), .int (enc (1))]) (st := [.int (enc (1)), .int (enc (toward M (M 7 t) (M 11 t))), .ref (q 0)]) vw_X5_63 (m_X5_ro_1 (q := q) (up (up (up (up (up M 7 (t) (-1)) 8 (t) (toward M (M 7 t) (M 11 t))) 10 (t) (len M (toward M (M 7 t) (M 11 t)))) 9 (t) (endF M (toward M (M 7 t) (M 11 t)) (M 7 t))) 12 (t) (mixD (M 12 t) (M 3 (toward M (M 7 t) (M 11 t))))) th kept fm (toward M (M 7 t) (M 11 t)) (by omega)) ([]) ([]) rfl rfl (q0 := 0) rfl rfl rfl ⟨rfl, rfl, Nat.le_of_ble_eq_true rfl, Nat.le_of_ble_eq_true rfl⟩ ⟨Nat.le_of_ble_eq_true rfl, Nat.le_of_ble_eq_true rfl⟩ (Nat.le_of_ble_eq_true rfl) dX5_goOn_110 (fun v w1 hp => ?_)
        obtain ⟨rfl, rfl⟩ := hp
        refine Teq (ws' := wP cy q (up (up (up (up (up M 7 (t) (-1)) 8 (t) (toward M (M 7 t) (M 11 t))) 10 (t) (len M (toward M (M 7 t) (M 11 t)))) 9 (t) (endF M (toward M (M 7 t) (M 11 t)) (M 7 t))) 12 (t) (mixD (M 12 t) (M 3 (toward M (M 7 t) (M 11 t))))) th kept fm) (lv' := [(3, .int (enc (toward M (M 7 t) (M 11 t)))), (2, .int (enc (M 7 t))), (0, .ref (q 0)), (1, .int (enc (t)))]) (st' := [.int (enc (M 4 (toward M (M 7 t) (M 11 t)))), .int (enc (1)), .int (enc (toward M (M 7 t) (M 11 t))), .ref (q 0)]) rfl rfl rfl ?_
        have b11 := hB 4 ((toward M (M 7 t) (M 11 t)))
        refine tw_iconst X dX5_goOn_113 ?_
        refine tw_iadd (z := (M 4 (toward M (M 7 t) (M 11 t))) + 1) X dX5_goOn_114 rfl ?_
        refine tw_callV X (As := [.int (enc (toward M (M 7 t) (M 11 t))), .int (enc (1)), .int (enc ((M 4 (toward M (M 7 t) (M 11 t))) + 1))]) (st := []) vw_X5_90 (m_X5_lay_1 (q := q) (up (up (up (up (up M 7 (t) (-1)) 8 (t) (toward M (M 7 t) (M 11 t))) 10 (t) (len M (toward M (M 7 t) (M 11 t)))) 9 (t) (endF M (toward M (M 7 t) (M 11 t)) (M 7 t))) 12 (t) (mixD (M 12 t) (M 3 (toward M (M 7 t) (M 11 t))))) th kept fm (toward M (M 7 t) (M 11 t)) ((M 4 (toward M (M 7 t) (M 11 t))) + 1) (by omega)) ([]) ([]) rfl rfl (q0 := 0) rfl rfl rfl ⟨rfl, rfl, Nat.le_of_ble_eq_true rfl, Nat.le_of_ble_eq_true rfl⟩ ⟨Nat.le_of_ble_eq_true rfl, Nat.le_of_ble_eq_true rfl⟩ (Nat.le_of_ble_eq_true rfl) dX5_goOn_115 (fun v w1 hp => ?_)
        obtain ⟨rfl, rfl⟩ := hp
        refine Teq (ws' := wP cy q (up (up (up (up (up (up M 7 (t) (-1)) 8 (t) (toward M (M 7 t) (M 11 t))) 10 (t) (len M (toward M (M 7 t) (M 11 t)))) 9 (t) (endF M (toward M (M 7 t) (M 11 t)) (M 7 t))) 12 (t) (mixD (M 12 t) (M 3 (toward M (M 7 t) (M 11 t))))) 4 (toward M (M 7 t) (M 11 t)) ((M 4 (toward M (M 7 t) (M 11 t))) + 1)) th kept fm) (lv' := [(3, .int (enc (toward M (M 7 t) (M 11 t)))), (2, .int (enc (M 7 t))), (0, .ref (q 0)), (1, .int (enc (t)))]) (st' := []) rfl rfl rfl ?_
        have eO : outT M t = (up (up (up (up (up (up M 7 (t) (-1)) 8 (t) (toward M (M 7 t) (M 11 t))) 10 (t) (len M (toward M (M 7 t) (M 11 t)))) 9 (t) (endF M (toward M (M 7 t) (M 11 t)) (M 7 t))) 12 (t) (mixD (M 12 t) (M 3 (toward M (M 7 t) (M 11 t))))) 4 (toward M (M 7 t) (M 11 t)) ((M 4 (toward M (M 7 t) (M 11 t))) + 1)) := by rw [goR_mod]; unfold outT; rw [if_neg (by omega), if_neg (by omega)]
        have h8 : 0 ≤ outT M t 8 t := by rw [eO, goR_mod, goR_eq]; simp; omega
        refine Tsub (lv' := [(0, .ref (q 0)), (1, .int (enc (t)))]) [2, 3] rfl ?_
        refine Tws (ws' := wP cy q (outT M t) th kept fm) (by rw [eO]) ?_
        exact J118 fm h8
      · skip
        exact ret _ _ _ dX5_goOn_45 ⟨rfl, fm, by rw [tour1_go (by omega), show outT M t = M from by unfold outT; rw [if_neg (by omega), if_pos (by omega)]]; unfold walkT; rw [if_pos (by omega)]⟩
  · skip
    rw [ne_eq, hdn] at c7
    exact ret _ _ _ dX5_goOn_10 ⟨rfl, far, by rw [tour1_in (by omega)]⟩
set_option maxRecDepth 100000 in
set_option maxHeartbeats 4000000 in
theorem m_X5_hourOn {G : va_G} {cy : ClassId} {q : Nat → Nat} (M : MT) (th : Int) (kept far : Int → Int) (B : Int) (hF : WF M B) (hB2 : B ≤ 900000) : Ct G cy yX5_hourOn cX5_hourOn 2 none ({ frames := 5, cells := 0, slots := 0, locals := 118 } : Room) 0 0 [.ref (q 0)] (wP cy q M th kept far) (fun v w1 => v = none ∧ ∃ f', w1 = wP cy q (hourM M) th kept f') := by
  refine Ct.ofV (by decide) (Nat.le_of_ble_eq_true rfl) rfl rfl ?_
  intro c X ret
  have hB := hF.bd (by omega)
  obtain ⟨w0, w1, w2, w3, w4⟩ := hF.r
  have h17 := hF.2.2.2.2.2.1
  have h172 := hF.2.2.2.2.2.2.1
  have h20 := hF.2.2.2.2.2.2.2.1
  have hA := hF.k_mendI (M 16 0).toNat
  have a16 : mendI M (M 16 0).toNat 16 0 = M 16 0 := by rw [mendI_eq M (by omega)]
  have a17 : mendI M (M 16 0).toNat 17 0 = M 17 0 := by rw [mendI_eq M (by omega)]
  have a20 : mendI M (M 16 0).toNat 20 0 = M 20 0 := by rw [mendI_eq M (by omega)]
  generalize hAe : mendI M (M 16 0).toNat = A at hA a16 a17 a20
  have hC := hA.k_tourI (M 17 0).toNat (by omega)
  have c16 : tourI A (M 17 0).toNat 16 0 = M 16 0 := by rw [tourI_fix A (by omega), a16]
  have c17 : tourI A (M 17 0).toNat 17 0 = M 17 0 := by rw [tourI_fix A (by omega), a17]
  have c20 : tourI A (M 17 0).toNat 20 0 = M 20 0 := by rw [tourI_fix A (by omega), a20]
  generalize hCe : tourI A (M 17 0).toNat = C at hC c16 c17 c20
  refine Tlv (lv' := [(0, .ref (q 0))]) rfl ?_
  refine tw_iconst X dX5_hourOn_0 ?_
  refine tw_istore_n (lv' := [(1, .int (enc (0))), (0, .ref (q 0))]) X dX5_hourOn_1 rfl (by decide) rfl ?_
  have L2 : ∀ (fu i : Nat), (i : Int) ≤ M 16 0 → M 16 0 + 1 ≤ (i : Int) + fu → T G c ({ frames := 5, cells := 0, slots := 0, locals := 118 } : Room) 2 0 0 (wP cy q (mendI M i) th kept far) 2 [(0, .ref (q 0)), (1, .int (enc ((i : Int))))] [] := by
    intro fu
    induction fu with
    | zero =>
      intro i  hi0 hi1
      exact absurd hi1 (by omega)
    | succ fu ih2 =>
      intro i  hi0_2 hi1_2 
      have hFi := hF.k_mendI i
      have hBi := hFi.bd (by omega)
      have e16 : mendI M i 16 0 = M 16 0 := by rw [mendI_eq M (by omega) i]
      refine tw_iload_n X dX5_hourOn_2 1 rfl rfl ?_
      refine tw_aload_n X dX5_hourOn_3 0 rfl rfl ?_
      refine gf_X5_51 X (v := .int (enc ((mendI M i) 16 0))) 0 rfl rfl dX5_hourOn_4 ?_
      have b1 := hBi 16 0
      refine tw_icmp_ge (tgt := 21) X (In_of (by omega) (by omega)) (In_of (by omega) (by omega)) dX5_hourOn_7 (by decide) (fun c7 => ?_) (fun c7 => ?_)
      · skip
        refine tw_iconst X dX5_hourOn_21 ?_
        refine tw_istore_n (lv' := [(1, .int (enc (0))), (0, .ref (q 0))]) X dX5_hourOn_22 rfl (by decide) rfl ?_
        have L23 : ∀ (fu i : Nat) (f1 : Int → Int), (i : Int) ≤ M 17 0 → M 17 0 + 1 ≤ (i : Int) + fu → T G c ({ frames := 5, cells := 0, slots := 0, locals := 118 } : Room) 2 0 0 (wP cy q (tourI A i) th kept f1) 23 [(0, .ref (q 0)), (1, .int (enc ((i : Int))))] [] := by
          intro fu
          induction fu with
          | zero =>
            intro i f1 hi0 hi1
            exact absurd hi1 (by omega)
          | succ fu ih23 =>
            intro i f1 hi0_23 hi1_23 
            have hFi := hA.k_tourI i (by omega)
            have hBi := hFi.bd (by omega)
            have e17 : tourI A i 17 0 = M 17 0 := by rw [tourI_fix A (by omega), a17]
            refine tw_iload_n X dX5_hourOn_23 1 rfl rfl ?_
            refine tw_aload_n X dX5_hourOn_24 0 rfl rfl ?_
            refine gf_X5_54 X (v := .int (enc ((tourI A i) 17 0))) 0 rfl rfl dX5_hourOn_25 ?_
            have b2 := hBi 17 0
            refine tw_icmp_ge (tgt := 42) X (In_of (by omega) (by omega)) (In_of (by omega) (by omega)) dX5_hourOn_28 (by decide) (fun c28 => ?_) (fun c28 => ?_)
            · skip
              refine tw_iconst X dX5_hourOn_42 ?_
              refine tw_istore_n (lv' := [(1, .int (enc (0))), (0, .ref (q 0))]) X dX5_hourOn_43 rfl (by decide) rfl ?_
              have L44 : ∀ (fu i : Nat), (i : Int) ≤ M 16 0 → M 16 0 + 1 ≤ (i : Int) + fu → T G c ({ frames := 5, cells := 0, slots := 0, locals := 118 } : Room) 2 0 0 (wP cy q (closeI C i) th kept f1) 44 [(0, .ref (q 0)), (1, .int (enc ((i : Int))))] [] := by
                intro fu
                induction fu with
                | zero =>
                  intro i  hi0 hi1
                  exact absurd hi1 (by omega)
                | succ fu ih44 =>
                  intro i  hi0_44 hi1_44 
                  have hFi := hC.k_closeI i
                  have hBi := hFi.bd (by omega)
                  have e16 : closeI C i 16 0 = M 16 0 := by rw [closeI_fix C (by omega) i, c16]
                  have e17 : closeI C i 17 0 = M 17 0 := by rw [closeI_fix C (by omega) i, c17]
                  refine tw_iload_n X dX5_hourOn_44 1 rfl rfl ?_
                  refine tw_aload_n X dX5_hourOn_45 0 rfl rfl ?_
                  refine gf_X5_51 X (v := .int (enc ((closeI C i) 16 0))) 0 rfl rfl dX5_hourOn_46 ?_
                  have b3 := hBi 16 0
                  refine tw_icmp_ge (tgt := 91) X (In_of (by omega) (by omega)) (In_of (by omega) (by omega)) dX5_hourOn_49 (by decide) (fun c49 => ?_) (fun c49 => ?_)
                  · skip
                    refine tw_aload_n X dX5_hourOn_91 0 rfl rfl ?_
                    refine gf_X5_31 X (v := .ref (q 8)) 0 rfl rfl dX5_hourOn_92 ?_
                    refine tw_iconst X dX5_hourOn_95 ?_
                    refine tw_dup2 X dX5_hourOn_96 rfl rfl ?_
                    refine tw_iald X (N := 133) (f := (pack (closeI C i))) 8 rfl (by decide) (by omega) dX5_hourOn_97 ?_
                    refine Tst (st' := [.int (enc ((closeI C i) 20 0)), .int (enc (0)), .ref (q 8)]) rfl ?_
                    have b4 := hBi 20 0
                    refine tw_iconst X dX5_hourOn_98 ?_
                    refine tw_iadd (z := ((closeI C i) 20 0) + 1) X dX5_hourOn_99 rfl ?_
                    refine tw_iast X (N := 133) (f := (pack (closeI C i))) (ws' := wM cy q (closeI C i) (ups (pack (closeI C i)) 0 (((closeI C i) 20 0) + 1)) th kept f1) 8 rfl (by decide) (by omega) dX5_hourOn_100 rfl ?_
                    refine Tws (ws' := wP cy q (upc (closeI C i) 20 (((closeI C i) 20 0) + 1)) th kept f1) (by rw [pack_sh]; rfl) ?_
                    have eH : hourM M = upc (closeI C i) 20 (closeI C i 20 0 + 1) := by unfold hourM; rw [hAe, hCe, show (M 16 0).toNat = i by omega, closeI_fix (k := 20) _ (by omega), c20]
                    exact ret _ _ _ dX5_hourOn_101 ⟨rfl, f1, by rw [eH]⟩
                  · skip
                    refine tw_aload_n X dX5_hourOn_52 0 rfl rfl ?_
                    refine tw_iload_n X dX5_hourOn_53 1 rfl rfl ?_
                    refine tw_callV X (As := [.int (enc ((i : Int)))]) (st := []) vw_X5_70 (m_X5_isOpen (q := q) (closeI C i) th kept f1 ((i : Int)) hBi (by omega)) ([]) ([]) rfl rfl (q0 := 0) rfl rfl rfl ⟨rfl, rfl, Nat.le_of_ble_eq_true rfl, Nat.le_of_ble_eq_true rfl⟩ ⟨Nat.le_of_ble_eq_true rfl, Nat.le_of_ble_eq_true rfl⟩ (Nat.le_of_ble_eq_true rfl) dX5_hourOn_54 (fun v w1 hp => ?_)
                    obtain ⟨rfl, rfl⟩ := hp
                    refine Teq (ws' := wP cy q (closeI C i) th kept f1) (lv' := [(0, .ref (q 0)), (1, .int (enc ((i : Int))))]) (st' := [.int (enc (if (closeI C i) 6 (i : Int) = 0 then 1 else 0))]) rfl rfl rfl ?_
                    refine tw_if_eq (tgt := 85) X In_b dX5_hourOn_57 (by decide) (fun c57 => ?_) (fun c57 => ?_)
                    · skip
                      have c57 := b01.mp c57
                      have eM : closeI C (i + 1) = closeI C i := by rw [closeI_s, close1_no (fun z => c57 z.1)]
                      refine tw_iinc (q := 1) (x := (i : Int)) (y := (i : Int) + 1) (lv' := [(1, .int (enc ((i : Int) + 1))), (0, .ref (q 0))]) X dX5_hourOn_85 rfl rfl (by decide) rfl ?_
                      refine tw_goto (tgt := 44) X dX5_hourOn_88 (by decide) ?_
                      refine Tsub (lv' := [(0, .ref (q 0)), (1, .int (enc ((i : Int) + 1)))]) [1, 0] rfl ?_
                      refine Teq (ws' := wP cy q (closeI C (i + 1)) th kept f1) (lv' := [(0, .ref (q 0)), (1, .int (enc (((i + 1 : Nat) : Int))))]) (st' := []) (by rw [eM]) (lvk (lvc (i_succ i) (rfl))) rfl (ih44 (i + 1) (by omega) (by omega))
                    · skip
                      have c57 := b01n.mp c57
                      refine tw_aload_n X dX5_hourOn_60 0 rfl rfl ?_
                      refine tw_iload_n X dX5_hourOn_61 1 rfl rfl ?_
                      refine tw_iconst X dX5_hourOn_62 ?_
                      refine tw_callV X (As := [.int (enc ((i : Int))), .int (enc (1))]) (st := []) vw_X5_63 (m_X5_ro_1 (q := q) (closeI C i) th kept f1 ((i : Int)) (by omega)) ([]) ([]) rfl rfl (q0 := 0) rfl rfl rfl ⟨rfl, rfl, Nat.le_of_ble_eq_true rfl, Nat.le_of_ble_eq_true rfl⟩ ⟨Nat.le_of_ble_eq_true rfl, Nat.le_of_ble_eq_true rfl⟩ (Nat.le_of_ble_eq_true rfl) dX5_hourOn_63 (fun v w1 hp => ?_)
                      obtain ⟨rfl, rfl⟩ := hp
                      refine Teq (ws' := wP cy q (closeI C i) th kept f1) (lv' := [(0, .ref (q 0)), (1, .int (enc ((i : Int))))]) (st' := [.int (enc ((closeI C i) 4 (i : Int)))]) rfl rfl rfl ?_
                      have b5 := hBi 4 (i : Int)
                      refine tw_iconst X dX5_hourOn_66 ?_
                      refine tw_icmp_lt (tgt := 85) X (In_of (by omega) (by omega)) (In_of (by omega) (by omega)) dX5_hourOn_67 (by decide) (fun c67 => ?_) (fun c67 => ?_)
                      · skip
                        have eM : closeI C (i + 1) = closeI C i := by rw [closeI_s, close1_no (fun z => by omega)]
                        refine tw_iinc (q := 1) (x := (i : Int)) (y := (i : Int) + 1) (lv' := [(1, .int (enc ((i : Int) + 1))), (0, .ref (q 0))]) X dX5_hourOn_85 rfl rfl (by decide) rfl ?_
                        refine tw_goto (tgt := 44) X dX5_hourOn_88 (by decide) ?_
                        refine Tsub (lv' := [(0, .ref (q 0)), (1, .int (enc ((i : Int) + 1)))]) [1, 0] rfl ?_
                        refine Teq (ws' := wP cy q (closeI C (i + 1)) th kept f1) (lv' := [(0, .ref (q 0)), (1, .int (enc (((i + 1 : Nat) : Int))))]) (st' := []) (by rw [eM]) (lvk (lvc (i_succ i) (rfl))) rfl (ih44 (i + 1) (by omega) (by omega))
                      · skip
                        refine tw_aload_n X dX5_hourOn_70 0 rfl rfl ?_
                        refine tw_iload_n X dX5_hourOn_71 1 rfl rfl ?_
                        refine tw_callV X (As := [.int (enc ((i : Int)))]) (st := []) vw_X5_110 (m_X5_on (q := q) (closeI C i) th kept f1 ((i : Int)) hBi (by omega) (by omega)) ([]) ([]) rfl rfl (q0 := 0) rfl rfl rfl ⟨rfl, rfl, Nat.le_of_ble_eq_true rfl, Nat.le_of_ble_eq_true rfl⟩ ⟨Nat.le_of_ble_eq_true rfl, Nat.le_of_ble_eq_true rfl⟩ (Nat.le_of_ble_eq_true rfl) dX5_hourOn_72 (fun v w1 hp => ?_)
                        obtain ⟨rfl, rfl⟩ := hp
                        refine Teq (ws' := wP cy q (closeI C i) th kept f1) (lv' := [(0, .ref (q 0)), (1, .int (enc ((i : Int))))]) (st' := [.int (enc (onR (closeI C i) (i : Int) ((closeI C i) 17 0).toNat))]) rfl rfl rfl ?_
                        have on := onR_rng (closeI C i) (i : Int) (closeI C i 17 0).toNat
                        refine tw_if_ne (tgt := 85) X (In_of (by omega) (by omega)) dX5_hourOn_75 (by decide) (fun c75 => ?_) (fun c75 => ?_)
                        · skip
                          have eM : closeI C (i + 1) = closeI C i := by rw [closeI_s, close1_no (fun z => c75 z.2.2)]
                          refine tw_iinc (q := 1) (x := (i : Int)) (y := (i : Int) + 1) (lv' := [(1, .int (enc ((i : Int) + 1))), (0, .ref (q 0))]) X dX5_hourOn_85 rfl rfl (by decide) rfl ?_
                          refine tw_goto (tgt := 44) X dX5_hourOn_88 (by decide) ?_
                          refine Tsub (lv' := [(0, .ref (q 0)), (1, .int (enc ((i : Int) + 1)))]) [1, 0] rfl ?_
                          refine Teq (ws' := wP cy q (closeI C (i + 1)) th kept f1) (lv' := [(0, .ref (q 0)), (1, .int (enc (((i + 1 : Nat) : Int))))]) (st' := []) (by rw [eM]) (lvk (lvc (i_succ i) (rfl))) rfl (ih44 (i + 1) (by omega) (by omega))
                        · skip
                          have eM : closeI C (i + 1) = up (closeI C i) 6 (i : Int) 4 := by rw [closeI_s, close1_y ⟨c57, c67, c75⟩]
                          refine tw_aload_n X dX5_hourOn_78 0 rfl rfl ?_
                          refine tw_iload_n X dX5_hourOn_79 1 rfl rfl ?_
                          refine tw_iconst X dX5_hourOn_80 ?_
                          refine tw_iconst X dX5_hourOn_81 ?_
                          refine tw_callV X (As := [.int (enc ((i : Int))), .int (enc (0)), .int (enc (4))]) (st := []) vw_X5_90 (m_X5_lay_0 (q := q) (closeI C i) th kept f1 ((i : Int)) (4) (by omega)) ([]) ([]) rfl rfl (q0 := 0) rfl rfl rfl ⟨rfl, rfl, Nat.le_of_ble_eq_true rfl, Nat.le_of_ble_eq_true rfl⟩ ⟨Nat.le_of_ble_eq_true rfl, Nat.le_of_ble_eq_true rfl⟩ (Nat.le_of_ble_eq_true rfl) dX5_hourOn_82 (fun v w1 hp => ?_)
                          obtain ⟨rfl, rfl⟩ := hp
                          refine Teq (ws' := wP cy q (up (closeI C i) 6 ((i : Int)) (4)) th kept f1) (lv' := [(0, .ref (q 0)), (1, .int (enc ((i : Int))))]) (st' := []) rfl rfl rfl ?_
                          refine tw_iinc (q := 1) (x := (i : Int)) (y := (i : Int) + 1) (lv' := [(1, .int (enc ((i : Int) + 1))), (0, .ref (q 0))]) X dX5_hourOn_85 rfl rfl (by decide) rfl ?_
                          refine tw_goto (tgt := 44) X dX5_hourOn_88 (by decide) ?_
                          refine Tsub (lv' := [(0, .ref (q 0)), (1, .int (enc ((i : Int) + 1)))]) [1, 0] rfl ?_
                          refine Teq (ws' := wP cy q (closeI C (i + 1)) th kept f1) (lv' := [(0, .ref (q 0)), (1, .int (enc (((i + 1 : Nat) : Int))))]) (st' := []) (by rw [eM]) (lvk (lvc (i_succ i) (rfl))) rfl (ih44 (i + 1) (by omega) (by omega))
              refine Tsub (lv' := [(0, .ref (q 0)), (1, .int (enc (0)))]) [1, 0] rfl ?_
              refine Teq (ws' := wP cy q (closeI C 0) th kept f1) (lv' := [(0, .ref (q 0)), (1, .int (enc (((0 : Nat) : Int))))]) (st' := []) (by rw [show i = (M 17 0).toNat by omega, hCe]; rfl) (rfl) rfl (L44 (M 16 0 + 1).toNat 0 (by omega) (by omega))
            · skip
              refine tw_aload_n X dX5_hourOn_31 0 rfl rfl ?_
              refine tw_iload_n X dX5_hourOn_32 1 rfl rfl ?_
              refine tw_callV X (As := [.int (enc ((i : Int)))]) (st := []) vw_X5_107 (m_X5_goOn (q := q) (tourI A i) th kept f1 ((i : Int)) (B + 2 * i) hFi (by omega) (by omega)) ([]) ([]) rfl rfl (q0 := 0) rfl rfl rfl ⟨rfl, rfl, Nat.le_of_ble_eq_true rfl, Nat.le_of_ble_eq_true rfl⟩ ⟨Nat.le_of_ble_eq_true rfl, Nat.le_of_ble_eq_true rfl⟩ (Nat.le_of_ble_eq_true rfl) dX5_hourOn_33 (fun v w1 hp => ?_)
              obtain ⟨rfl, fg, rfl⟩ := hp
              refine Teq (ws' := wP cy q (tour1 (tourI A i) (i : Int)) th kept fg) (lv' := [(0, .ref (q 0)), (1, .int (enc ((i : Int))))]) (st' := []) rfl rfl rfl ?_
              refine tw_iinc (q := 1) (x := (i : Int)) (y := (i : Int) + 1) (lv' := [(1, .int (enc ((i : Int) + 1))), (0, .ref (q 0))]) X dX5_hourOn_36 rfl rfl (by decide) rfl ?_
              refine tw_goto (tgt := 23) X dX5_hourOn_39 (by decide) ?_
              refine Tsub (lv' := [(0, .ref (q 0)), (1, .int (enc ((i : Int) + 1)))]) [1, 0] rfl ?_
              refine Teq (ws' := wP cy q (tourI A (i + 1)) th kept (fg)) (lv' := [(0, .ref (q 0)), (1, .int (enc (((i + 1 : Nat) : Int))))]) (st' := []) (by rw [tourI_s]) (lvk (lvc (i_succ i) (rfl))) rfl (ih23 (i + 1) (fg) (by omega) (by omega))
        refine Tsub (lv' := [(0, .ref (q 0)), (1, .int (enc (0)))]) [1, 0] rfl ?_
        refine Teq (ws' := wP cy q (tourI A 0) th kept (far)) (lv' := [(0, .ref (q 0)), (1, .int (enc (((0 : Nat) : Int))))]) (st' := []) (by rw [show i = (M 16 0).toNat by omega, hAe]; rfl) (rfl) rfl (L23 (M 17 0 + 1).toNat 0 (far) (by omega) (by omega))
      · skip
        refine tw_aload_n X dX5_hourOn_10 0 rfl rfl ?_
        refine tw_iload_n X dX5_hourOn_11 1 rfl rfl ?_
        refine tw_callV X (As := [.int (enc ((i : Int)))]) (st := []) vw_X5_103 (m_X5_mendOn (q := q) (mendI M i) th kept far ((i : Int)) B hFi (by omega) (by omega)) ([]) ([]) rfl rfl (q0 := 0) rfl rfl rfl ⟨rfl, rfl, Nat.le_of_ble_eq_true rfl, Nat.le_of_ble_eq_true rfl⟩ ⟨Nat.le_of_ble_eq_true rfl, Nat.le_of_ble_eq_true rfl⟩ (Nat.le_of_ble_eq_true rfl) dX5_hourOn_12 (fun v w1 hp => ?_)
        obtain ⟨rfl, rfl⟩ := hp
        refine Teq (ws' := wP cy q (mend1 (mendI M i) (i : Int)) th kept far) (lv' := [(0, .ref (q 0)), (1, .int (enc ((i : Int))))]) (st' := []) rfl rfl rfl ?_
        refine tw_iinc (q := 1) (x := (i : Int)) (y := (i : Int) + 1) (lv' := [(1, .int (enc ((i : Int) + 1))), (0, .ref (q 0))]) X dX5_hourOn_15 rfl rfl (by decide) rfl ?_
        refine tw_goto (tgt := 2) X dX5_hourOn_18 (by decide) ?_
        refine Tsub (lv' := [(0, .ref (q 0)), (1, .int (enc ((i : Int) + 1)))]) [1, 0] rfl ?_
        refine Teq (ws' := wP cy q (mendI M (i + 1)) th kept far) (lv' := [(0, .ref (q 0)), (1, .int (enc (((i + 1 : Nat) : Int))))]) (st' := []) (by rw [mendI_s]) (lvk (lvc (i_succ i) (rfl))) rfl (ih2 (i + 1) (by omega) (by omega))
  refine Tsub (lv' := [(0, .ref (q 0)), (1, .int (enc (0)))]) [1, 0] rfl ?_
  refine Teq (ws' := wP cy q (mendI M 0) th kept far) (lv' := [(0, .ref (q 0)), (1, .int (enc (((0 : Nat) : Int))))]) (st' := []) (rfl) (rfl) rfl (L2 (M 16 0 + 1).toNat 0 (by omega) (by omega))
set_option maxRecDepth 100000 in
set_option maxHeartbeats 4000000 in
theorem m_X5_hoursOn {G : va_G} {cy : ClassId} {q : Nat → Nat} (M : MT) (th : Int) (kept far : Int → Int) (h : Int) (hn : Nat) (hh : h = hn) (h101 : hn ≤ 101) (B : Int) (hF : WF M B) (hB2 : B ≤ 800000) : Ct G cy yX5_hoursOn cX5_hoursOn 3 none ({ frames := 6, cells := 0, slots := 0, locals := 139 } : Room) 0 0 [.ref (q 0), .int (enc (h))] (wP cy q M th kept far) (fun v w1 => v = none ∧ ∃ f', w1 = wP cy q (hoursM M hn) th kept f') := by
  refine Ct.ofV (by decide) (Nat.le_of_ble_eq_true rfl) rfl rfl ?_
  intro c X ret
  refine Tlv (lv' := [(0, .ref (q 0)), (1, .int (enc (h)))]) rfl ?_
  refine tw_iconst X dX5_hoursOn_0 ?_
  refine tw_istore_n (lv' := [(2, .int (enc (0))), (0, .ref (q 0)), (1, .int (enc (h)))]) X dX5_hoursOn_1 rfl (by decide) rfl ?_
  have L2 : ∀ (fu i : Nat) (f1 : Int → Int), (i : Int) ≤ h → h + 1 ≤ (i : Int) + fu → T G c ({ frames := 6, cells := 0, slots := 0, locals := 139 } : Room) 3 0 0 (wP cy q (hoursM M i) th kept f1) 2 [(0, .ref (q 0)), (1, .int (enc (h))), (2, .int (enc ((i : Int))))] [] := by
    intro fu
    induction fu with
    | zero =>
      intro i f1 hi0 hi1
      exact absurd hi1 (by omega)
    | succ fu ih2 =>
      intro i f1 hi0_2 hi1_2 
      refine tw_iload_n X dX5_hoursOn_2 2 rfl rfl ?_
      refine tw_iload_n X dX5_hoursOn_3 1 rfl rfl ?_
      refine tw_icmp_ge (tgt := 17) X (In_of (by omega) (by omega)) (In_of (by omega) (by omega)) dX5_hoursOn_4 (by decide) (fun c4 => ?_) (fun c4 => ?_)
      · skip
        exact ret _ _ _ dX5_hoursOn_17 ⟨rfl, f1, by rw [show hn = i by omega]⟩
      · skip
        refine tw_aload_n X dX5_hoursOn_7 0 rfl rfl ?_
        refine tw_callV X (As := []) (st := []) vw_X5_113 (m_X5_hourOn (q := q) (hoursM M i) th kept f1 (B + 26 * i) (hF.hours i) (by omega)) ([]) ([]) rfl rfl (q0 := 0) rfl rfl rfl ⟨rfl, rfl, Nat.le_of_ble_eq_true rfl, Nat.le_of_ble_eq_true rfl⟩ ⟨Nat.le_of_ble_eq_true rfl, Nat.le_of_ble_eq_true rfl⟩ (Nat.le_of_ble_eq_true rfl) dX5_hoursOn_8 (fun v w1 hp => ?_)
        obtain ⟨rfl, fh, rfl⟩ := hp
        refine Teq (ws' := wP cy q (hourM (hoursM M i)) th kept fh) (lv' := [(0, .ref (q 0)), (1, .int (enc (h))), (2, .int (enc ((i : Int))))]) (st' := []) rfl rfl rfl ?_
        refine tw_iinc (q := 2) (x := (i : Int)) (y := (i : Int) + 1) (lv' := [(2, .int (enc ((i : Int) + 1))), (0, .ref (q 0)), (1, .int (enc (h)))]) X dX5_hoursOn_11 rfl rfl (by decide) rfl ?_
        refine tw_goto (tgt := 2) X dX5_hoursOn_14 (by decide) ?_
        refine Tsub (lv' := [(0, .ref (q 0)), (1, .int (enc (h))), (2, .int (enc ((i : Int) + 1)))]) [1, 2, 0] rfl ?_
        refine Teq (ws' := wP cy q (hoursM M (i + 1)) th kept (fh)) (lv' := [(0, .ref (q 0)), (1, .int (enc (h))), (2, .int (enc (((i + 1 : Nat) : Int))))]) (st' := []) (by rw [hoursM_s]) (lvk (lvk (lvc (i_succ i) (rfl)))) rfl (ih2 (i + 1) (fh) (by omega) (by omega))
  refine Tsub (lv' := [(0, .ref (q 0)), (1, .int (enc (h))), (2, .int (enc (0)))]) [1, 2, 0] rfl ?_
  refine Teq (ws' := wP cy q (hoursM M 0) th kept (far)) (lv' := [(0, .ref (q 0)), (1, .int (enc (h))), (2, .int (enc (((0 : Nat) : Int))))]) (st' := []) (rfl) (rfl) rfl (L2 (h + 1).toNat 0 (far) (by omega) (by omega))
