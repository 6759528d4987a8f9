/-! DISTANCES, and the road to take -/
theorem sd_zero : ∀ n : Nat, sd (fun _ => 0) n = 0
  | 0 => rfl
  | n + 1 => by rw [sd_s, sd_zero n]; rfl
def PK (far dn : Int → Int) (nx j : Int) : Prop := (nx = -1 ∧ ∀ c : Int, 0 ≤ c → c < j → dn c = 1) ∨ (0 ≤ nx ∧ nx < j ∧ dn nx = 0 ∧ ∀ c : Int, 0 ≤ c → c < j → dn c = 0 → far nx ≤ far c)
theorem PK.init {far dn : Int → Int} : PK far dn (-1) 0 := Or.inl ⟨rfl, fun c c0 c1 => absurd c1 (by omega)⟩
theorem PK.rng {far dn : Int → Int} {nx j : Int} (h : PK far dn nx j) : -1 ≤ nx ∧ (nx = -1 ∨ nx < j) := by
  rcases h with h | h
  · omega
  · omega
theorem PK.done {far dn : Int → Int} {nx j : Int} (h : PK far dn nx j) (hd : dn j = 1) : PK far dn nx (j + 1) := by
  rcases h with ⟨h1, h2⟩ | ⟨h1, h2, h3, h4⟩
  · refine Or.inl ⟨h1, fun c c0 c1 => ?_⟩
    by_cases e : c = j
    · rw [e]; exact hd
    · exact h2 c c0 (by omega)
  · refine Or.inr ⟨h1, by omega, h3, fun c c0 c1 hc => ?_⟩
    by_cases e : c = j
    · rw [e] at hc; omega
    · exact h4 c c0 (by omega) hc
theorem PK.keep {far dn : Int → Int} {nx j : Int} (h : PK far dn nx j) (hn : 0 ≤ nx) (hle : far nx ≤ far j) : PK far dn nx (j + 1) := by
  rcases h with ⟨h1, h2⟩ | ⟨h1, h2, h3, h4⟩
  · omega
  · refine Or.inr ⟨h1, by omega, h3, fun c c0 c1 hc => ?_⟩
    by_cases e : c = j
    · rw [e]; exact hle
    · exact h4 c c0 (by omega) hc
theorem PK.take {far dn : Int → Int} {nx j : Int} (h : PK far dn nx j) (hj : 0 ≤ j) (hd : dn j = 0) (hx : nx < 0 ∨ far j < far nx) : PK far dn j (j + 1) := by
  refine Or.inr ⟨hj, by omega, hd, fun c c0 c1 hc => ?_⟩
  by_cases e : c = j
  · rw [e]; exact Int.le_refl _
  · rcases h with ⟨h1, h2⟩ | ⟨h1, h2, h3, h4⟩
    · have := h2 c c0 (by omega)
      omega
    · have := h4 c c0 (by omega) hc
      omega
theorem PK.full {far dn : Int → Int} {nx n k : Int} (h : PK far dn nx n) (hn : 0 ≤ n) (hs : sd dn n.toNat = k) (hk : k < n) : 0 ≤ nx ∧ nx < n ∧ dn nx = 0 ∧ ∀ c : Int, 0 ≤ c → c < n → dn c = 0 → far nx ≤ far c := by
  rcases h with ⟨h1, h2⟩ | h
  · have := sd_all (f := dn) n.toNat (fun c c0 c1 => h2 c c0 (by omega))
    omega
  · exact h
theorem fi_next {far : Int → Int} {src i v : Int} (hf : ∀ c : Int, 0 ≤ c → c < i → far c = if c = src then 0 else 999) (hv : (i = src ∧ v = 0) ∨ (i ≠ src ∧ v = 999)) : ∀ c : Int, 0 ≤ c → c < i + 1 → ups far i v c = if c = src then 0 else 999 := by
  intro c c0 c1
  by_cases e : c = i
  · rw [e, ups_same]
    rcases hv with ⟨h1, h2⟩ | ⟨h1, h2⟩
    · rw [if_pos h1, h2]
    · rw [if_neg h1, h2]
  · rw [ups_ne _ e]; exact hf c c0 (by omega)
theorem endF_bd {M : MT} (hW : WFR M) {r a : Int} (h0 : 0 ≤ r) (h1 : r < M 16 0) : -1 ≤ endF M r a ∧ endF M r a < M 19 0 := by
  have := hW.2.2.2.2 r h0 h1
  have := hW.2.2.1
  unfold endF
  split
  · omega
  · split <;> omega
theorem d9_rng {M : MT} (hW : WFR M) {o : Bool} {a b : Int} (ha : 0 ≤ a ∧ a < M 19 0) : 0 ≤ d9 (dst M o a b) ∧ d9 (dst M o a b) ≤ 999 ∧ (d9 (dst M o a b) = 999 ∨ (d9 (dst M o a b) = dst M o a b ∧ dst M o a b ≤ 108)) ∧ (d9 (dst M o a b) = 999 ↔ ¬ dst M o a b < 1000000) := by
  have h0 := (dst_ok (o := o) hW a b).1
  unfold d9
  by_cases h : dst M o a b < 1000000
  · have := dst_108 hW ha.1 ha.2 h
    rw [if_pos h]
    exact ⟨h0, by omega, Or.inr ⟨rfl, this⟩, ⟨fun z => by omega, fun z => absurd h z⟩⟩
  · rw [if_neg h]
    exact ⟨by decide, by decide, Or.inl rfl, ⟨fun _ => h, fun _ => rfl⟩⟩
set_option maxRecDepth 100000 in
set_option maxHeartbeats 4000000 in
theorem m_X5_distances {G : va_G} {cy : ClassId} {q rr tt : Nat → Nat} (M : MT) (g : Int → Int) (B : Int) (hF : WF M B) (hB2 : B ≤ 900000) (o : Bool) (src al : Int) (hs : 0 ≤ src ∧ src < M 19 0) (hal : (al = 1 ∧ o = false) ∨ (al = 0 ∧ o = true)) : Ct G cy yX5_distances cX5_distances 12 (some (.array .int)) ({ frames := 1, cells := 2, slots := 20, locals := 21 } : Room) 2 20 [.ref (q 0), .int (enc (src)), .int (enc (al))] (wS G cy q rr tt M g) (fun v w1 => ∃ (a : Nat) (F : Int → Int), v = some (.ref a) ∧ (∀ c : Int, 0 ≤ c → c < M 19 0 → F c = d9 (dst M o src c)) ∧ w1 = [(a, arI cy (M 19 0).toNat F)] ++ wS G cy q rr tt M g) := by
  refine Ct.ofA (by decide) (Nat.le_of_ble_eq_true rfl) rfl rfl (Or.inr ⟨_, rfl⟩) ?_
  intro c X ret
  have hB := hF.bd (by omega)
  obtain ⟨w0, w1, w2, w3, w4⟩ := hF.r
  have h17 := hF.2.2.2.2.2.1
  have h172 := hF.2.2.2.2.2.2.1
  have h20 := hF.2.2.2.2.2.2.2.1
  refine Tlv (lv' := [(0, .ref (q 0)), (1, .int (enc (src))), (2, .int (enc (al)))]) rfl ?_
  refine tw_aload_n X dX5_distances_0 0 rfl rfl ?_
  refine gf_X5_18 X (v := .int (enc (M 19 0))) 0 rfl rfl dX5_distances_1 ?_
  have b1 := hB 19 0
  refine tw_newa X (N := (M 19 0).toNat) (by omega) (by omega) (show 0 + 1 ≤ 2 by omega) (show 0 + (M 19 0).toNat ≤ 20 by omega) dX5_distances_4 (fun qa4 => ?_)
  refine Tnew ([]) (wS G cy q rr tt M g) ([(qa4, arI cy ((M 19 0).toNat) (fun _ => 0))]) (ws' := [(qa4, arI cy ((M 19 0).toNat) (fun _ => 0))] ++ wS G cy q rr tt M g) rfl rfl ?_
  refine Twiden (k' := 0 + 1) (n' := 0 + 10) (by omega) (by omega) ?_
  refine tw_astore_n (lv' := [(3, .ref (qa4)), (0, .ref (q 0)), (1, .int (enc (src))), (2, .int (enc (al)))]) X dX5_distances_6 rfl (by decide) rfl ?_
  refine tw_aload_n X dX5_distances_7 1 rfl rfl ?_
  refine gf_X5_18 X (v := .int (enc (M 19 0))) 1 rfl rfl dX5_distances_8 ?_
  have b2 := hB 19 0
  refine tw_newz X (N := (M 19 0).toNat) (by omega) (by omega) (show 0 + 1 + 1 ≤ 2 by omega) (show 0 + 10 + (M 19 0).toNat ≤ 20 by omega) dX5_distances_11 (fun qa11 => ?_)
  refine Tnew ([(qa4, arI cy ((M 19 0).toNat) (fun _ => 0))]) (wS G cy q rr tt M g) ([(qa11, arZ G ((M 19 0).toNat) (fun _ => 0))]) (ws' := [(qa4, arI cy ((M 19 0).toNat) (fun _ => 0))] ++ [(qa11, arZ G ((M 19 0).toNat) (fun _ => 0))] ++ wS G cy q rr tt M g) rfl rfl ?_
  refine Twiden (k' := 0 + 1 + 1) (n' := 0 + 10 + 10) (by omega) (by omega) ?_
  refine tw_astore (lv' := [(4, .ref (qa11)), (3, .ref (qa4)), (0, .ref (q 0)), (1, .int (enc (src))), (2, .int (enc (al)))]) X dX5_distances_13 (by decide) rfl ?_
  refine tw_iconst X dX5_distances_15 ?_
  refine tw_istore (lv' := [(5, .int (enc (0))), (4, .ref (qa11)), (3, .ref (qa4)), (0, .ref (q 0)), (1, .int (enc (src))), (2, .int (enc (al)))]) X dX5_distances_16 (by decide) rfl ?_
  have L18 : ∀ (fu i : Nat) (far0 : Int → Int), (i : Int) ≤ M 19 0 → M 19 0 + 1 ≤ (i : Int) + fu → (∀ c : Int, 0 ≤ c → c < (i : Int) → far0 c = if c = src then 0 else 999) → T G c ({ frames := 1, cells := 2, slots := 20, locals := 21 } : Room) 12 (0 + 1 + 1) (0 + 10 + 10) ([(qa4, arI cy ((M 19 0).toNat) far0)] ++ [(qa11, arZ G ((M 19 0).toNat) (fun _ => 0))] ++ wS G cy q rr tt M g) 18 [(5, .int (enc ((i : Int)))), (0, .ref (q 0)), (1, .int (enc (src))), (2, .int (enc (al))), (3, .ref (qa4)), (4, .ref (qa11))] [] := by
    intro fu
    induction fu with
    | zero =>
      intro i far0 hi0 hi1
      exact absurd hi1 (by omega)
    | succ fu ih18 =>
      intro i far0 hi0_18 hi1_18 hf
      refine tw_iload X dX5_distances_18 0 rfl ?_
      refine tw_aload_n X dX5_distances_20 1 rfl rfl ?_
      refine gf_X5_18 X (v := .int (enc (M 19 0))) 2 rfl rfl dX5_distances_21 ?_
      have b3 := hB 19 0
      refine tw_icmp_ge (tgt := 50) X (In_of (by omega) (by omega)) (In_of (by omega) (by omega)) dX5_distances_24 (by decide) (fun c24 => ?_) (fun c24 => ?_)
      · skip
        refine tw_iconst X dX5_distances_50 ?_
        refine tw_istore (lv' := [(5, .int (enc (0))), (0, .ref (q 0)), (1, .int (enc (src))), (2, .int (enc (al))), (3, .ref (qa4)), (4, .ref (qa11))]) X dX5_distances_51 (by decide) rfl ?_
        have L53 : ∀ (fu k : Nat) (far1 : Int → Int) (dn1 : Int → Int), (k : Int) ≤ M 19 0 → M 19 0 + 1 ≤ (k : Int) + fu → JF M o src far1 dn1 → RX M o far1 dn1 0 (M 16 0) → sd dn1 (M 19 0).toNat = (k : Int) → T G c ({ frames := 1, cells := 2, slots := 20, locals := 21 } : Room) 12 (0 + 1 + 1) (0 + 10 + 10) ([(qa4, arI cy ((M 19 0).toNat) far1)] ++ [(qa11, arZ G ((M 19 0).toNat) dn1)] ++ wS G cy q rr tt M g) 53 [(5, .int (enc ((k : Int)))), (0, .ref (q 0)), (1, .int (enc (src))), (2, .int (enc (al))), (3, .ref (qa4)), (4, .ref (qa11))] [] := by
          intro fu
          induction fu with
          | zero =>
            intro k far1 dn1 hi0 hi1
            exact absurd hi1 (by omega)
          | succ fu ih53 =>
            intro k far1 dn1 hi0_53 hi1_53 hJ hR hsd
            refine tw_iload X dX5_distances_53 0 rfl ?_
            refine tw_aload_n X dX5_distances_55 1 rfl rfl ?_
            refine gf_X5_18 X (v := .int (enc (M 19 0))) 2 rfl rfl dX5_distances_56 ?_
            have b4 := hB 19 0
            refine tw_icmp_ge (tgt := 245) X (In_of (by omega) (by omega)) (In_of (by omega) (by omega)) dX5_distances_59 (by decide) (fun c59 => ?_) (fun c59 => ?_)
            · skip
              refine tw_aload_n X dX5_distances_245 4 rfl rfl ?_
              refine Tgone ([(qa4, arI cy ((M 19 0).toNat) far1)]) (wS G cy q rr tt M g) ([(qa11, arZ G ((M 19 0).toNat) dn1)]) (ws' := [(qa4, arI cy ((M 19 0).toNat) far1)] ++ wS G cy q rr tt M g) rfl rfl ?_
              refine Twiden (k' := 2) (n' := 20) (by omega) (by omega) ?_
              exact ret _ _ _ _ dX5_distances_246 ⟨_, _, rfl, fun c c0 c1 => hJ.2.2 c c0 c1 (sd_full (M 19 0).toNat (fun c c0 c1 => (hJ.1 c c0 (by omega)).2.2.2) (by omega) c c0 (by omega)), rfl⟩
            · skip
              refine tw_iconst X dX5_distances_62 ?_
              refine tw_istore (lv' := [(6, .int (enc (-1))), (5, .int (enc ((k : Int)))), (0, .ref (q 0)), (1, .int (enc (src))), (2, .int (enc (al))), (3, .ref (qa4)), (4, .ref (qa11))]) X dX5_distances_63 (by decide) rfl ?_
              refine tw_iconst X dX5_distances_65 ?_
              refine tw_istore (lv' := [(7, .int (enc (0))), (6, .int (enc (-1))), (5, .int (enc ((k : Int)))), (0, .ref (q 0)), (1, .int (enc (src))), (2, .int (enc (al))), (3, .ref (qa4)), (4, .ref (qa11))]) X dX5_distances_66 (by decide) rfl ?_
              have L68 : ∀ (fu j : Nat) (nx : Int), (j : Int) ≤ M 19 0 → M 19 0 + 1 ≤ (j : Int) + fu → PK far1 dn1 nx (j : Int) → T G c ({ frames := 1, cells := 2, slots := 20, locals := 21 } : Room) 12 (0 + 1 + 1) (0 + 10 + 10) ([(qa4, arI cy ((M 19 0).toNat) far1)] ++ [(qa11, arZ G ((M 19 0).toNat) dn1)] ++ wS G cy q rr tt M g) 68 [(7, .int (enc ((j : Int)))), (6, .int (enc (nx))), (5, .int (enc ((k : Int)))), (0, .ref (q 0)), (1, .int (enc (src))), (2, .int (enc (al))), (3, .ref (qa4)), (4, .ref (qa11))] [] := by
                intro fu
                induction fu with
                | zero =>
                  intro j nx hi0 hi1
                  exact absurd hi1 (by omega)
                | succ fu ih68 =>
                  intro j nx hi0_68 hi1_68 hpk
                  refine tw_iload X dX5_distances_68 0 rfl ?_
                  refine tw_aload_n X dX5_distances_70 3 rfl rfl ?_
                  refine gf_X5_18 X (v := .int (enc (M 19 0))) 2 rfl rfl dX5_distances_71 ?_
                  have b5 := hB 19 0
                  refine tw_icmp_ge (tgt := 111) X (In_of (by omega) (by omega)) (In_of (by omega) (by omega)) dX5_distances_74 (by decide) (fun c74 => ?_) (fun c74 => ?_)
                  · skip
                    have hjn : (j : Int) = M 19 0 := by omega
                    rw [hjn] at hpk
                    have hpf := hpk.full (by omega) hsd c59
                    have hnx : 0 ≤ nx ∧ nx < M 19 0 := ⟨hpf.1, hpf.2.1⟩
                    have hfm := JF.pick hF.r hs hJ hR hnx hpf.2.2.1 hpf.2.2.2
                    have hJm := hJ.mark hfm
                    have hnc := hJ.1 nx hnx.1 hnx.2
                    have hsn : sd (ups dn1 nx 1) (M 19 0).toNat = ((k + 1 : Nat) : Int) := by rw [sd_up dn1 _ hnx.1 (by omega), hsd, hpf.2.2.1]; omega
                    refine tw_aload X dX5_distances_111 7 rfl ?_
                    refine tw_iload X dX5_distances_113 1 rfl ?_
                    refine tw_iconst X dX5_distances_115 ?_
                    refine tw_zast X (N := (M 19 0).toNat) (f := dn1) (ws' := [(qa4, arI cy ((M 19 0).toNat) far1)] ++ [(qa11, arZ G ((M 19 0).toNat) (ups dn1 (nx) (1)))] ++ wS G cy q rr tt M g) 1 rfl (by omega) (by omega) (Or.inr rfl) dX5_distances_116 rfl ?_
                    refine tw_aload_n X dX5_distances_117 6 rfl rfl ?_
                    refine tw_iload X dX5_distances_118 1 rfl ?_
                    refine tw_iald X (N := (M 19 0).toNat) (f := far1) 0 rfl (by omega) (by omega) dX5_distances_120 ?_
                    refine tw_sipush X dX5_distances_121 (by decide) ?_
                    refine tw_icmp_ne (tgt := 130) X (In_of (by omega) (by omega)) (In_of (by omega) (by omega)) dX5_distances_124 (by decide) (fun c124 => ?_) (fun c124 => ?_)
                    · skip
                      have h9m : far1 nx < 999 := by omega
                      refine tw_aload_n X dX5_distances_130 3 rfl rfl ?_
                      refine gf_X5_9 X (v := .ref (q 1)) 2 rfl rfl dX5_distances_131 ?_
                      refine tw_astore (lv' := [(7, .ref (q 1)), (6, .int (enc (nx))), (5, .int (enc ((k : Int)))), (0, .ref (q 0)), (1, .int (enc (src))), (2, .int (enc (al))), (3, .ref (qa4)), (4, .ref (qa11))]) X dX5_distances_134 (by decide) rfl ?_
                      refine tw_aload X dX5_distances_136 0 rfl ?_
                      refine sr_lenR X (g := g) ([(qa4, arI cy ((M 19 0).toNat) far1)] ++ [(qa11, arZ G ((M 19 0).toNat) (ups dn1 (nx) (1)))]) rfl (by omega) dX5_distances_138 ?_
                      refine tw_istore (lv' := [(8, .int (enc (M 16 0))), (7, .ref (q 1)), (6, .int (enc (nx))), (5, .int (enc ((k : Int)))), (0, .ref (q 0)), (1, .int (enc (src))), (2, .int (enc (al))), (3, .ref (qa4)), (4, .ref (qa11))]) X dX5_distances_139 (by decide) rfl ?_
                      refine tw_iconst X dX5_distances_141 ?_
                      refine tw_istore (lv' := [(9, .int (enc (0))), (8, .int (enc (M 16 0))), (7, .ref (q 1)), (6, .int (enc (nx))), (5, .int (enc ((k : Int)))), (0, .ref (q 0)), (1, .int (enc (src))), (2, .int (enc (al))), (3, .ref (qa4)), (4, .ref (qa11))]) X dX5_distances_142 (by decide) rfl ?_
                      have L144 : ∀ (fu e : Nat) (far2 : Int → Int), (e : Int) ≤ M 16 0 → M 16 0 + 1 ≤ (e : Int) + fu → JF M o src far2 (ups dn1 nx 1) → RX M o far2 (ups dn1 nx 1) nx (e : Int) → far2 nx < 999 → T G c ({ frames := 1, cells := 2, slots := 20, locals := 21 } : Room) 12 (0 + 1 + 1) (0 + 10 + 10) ([(qa4, arI cy ((M 19 0).toNat) far2)] ++ [(qa11, arZ G ((M 19 0).toNat) (ups dn1 (nx) (1)))] ++ wS G cy q rr tt M g) 144 [(9, .int (enc ((e : Int)))), (8, .int (enc (M 16 0))), (7, .ref (q 1)), (6, .int (enc (nx))), (5, .int (enc ((k : Int)))), (0, .ref (q 0)), (1, .int (enc (src))), (2, .int (enc (al))), (3, .ref (qa4)), (4, .ref (qa11))] [] := by
                        intro fu
                        induction fu with
                        | zero =>
                          intro e far2 hi0 hi1
                          exact absurd hi1 (by omega)
                        | succ fu ih144 =>
                          intro e far2 hi0_144 hi1_144 hJe hRe h9e
                          refine tw_iload X dX5_distances_144 0 rfl ?_
                          refine tw_iload X dX5_distances_146 1 rfl ?_
                          refine tw_icmp_ge (tgt := 239) X (In_of (by omega) (by omega)) (In_of (by omega) (by omega)) dX5_distances_148 (by decide) (fun c148 => ?_) (fun c148 => ?_)
                          · skip
                            have hee : (e : Int) = M 16 0 := by omega
                            rw [hee] at hRe
                            have hJn := hJe
                            have hRn := RX.all hRe 0
                            refine tw_iinc (q := 4) (x := (k : Int)) (y := (k : Int) + 1) (lv' := [(5, .int (enc ((k : Int) + 1))), (9, .int (enc ((e : Int)))), (8, .int (enc (M 16 0))), (7, .ref (q 1)), (6, .int (enc (nx))), (0, .ref (q 0)), (1, .int (enc (src))), (2, .int (enc (al))), (3, .ref (qa4)), (4, .ref (qa11))]) X dX5_distances_239 rfl rfl (by decide) rfl ?_
                            refine tw_goto (tgt := 53) X dX5_distances_242 (by decide) ?_
                            refine Tsub (lv' := [(5, .int (enc ((k : Int) + 1))), (0, .ref (q 0)), (1, .int (enc (src))), (2, .int (enc (al))), (3, .ref (qa4)), (4, .ref (qa11))]) [0, 5, 6, 7, 8, 9] rfl ?_
                            refine Teq (ws' := [(qa4, arI cy ((M 19 0).toNat) (far2))] ++ [(qa11, arZ G ((M 19 0).toNat) ((ups dn1 (nx) (1))))] ++ wS G cy q rr tt M g) (lv' := [(5, .int (enc (((k + 1 : Nat) : Int)))), (0, .ref (q 0)), (1, .int (enc (src))), (2, .int (enc (al))), (3, .ref (qa4)), (4, .ref (qa11))]) (st' := []) (rfl) (lvc (i_succ k) (lvk (lvk (lvk (lvk (lvk (rfl))))))) rfl (ih53 (k + 1) (far2) ((ups dn1 (nx) (1))) (by omega) (by omega) (hJn) (hRn) (hsn))
                          · skip
                            have d6 := (hF.2.2.2.1 (e : Int)).2.1
                            refine tw_aload X dX5_distances_151 2 rfl ?_
                            refine tw_iload X dX5_distances_153 0 rfl ?_
                            refine sr_aaR X (g := g) (M := M) (r := (e : Int)) ([(qa4, arI cy ((M 19 0).toNat) far2)] ++ [(qa11, arZ G ((M 19 0).toNat) (ups dn1 (nx) (1)))]) rfl (by omega) (by omega) dX5_distances_155 ?_
                            refine tw_astore (lv' := [(10, .ref (rr ((e : Int)).toNat)), (9, .int (enc ((e : Int)))), (8, .int (enc (M 16 0))), (7, .ref (q 1)), (6, .int (enc (nx))), (5, .int (enc ((k : Int)))), (0, .ref (q 0)), (1, .int (enc (src))), (2, .int (enc (al))), (3, .ref (qa4)), (4, .ref (qa11))]) X dX5_distances_156 (by decide) rfl ?_
                            refine tw_iload_n X dX5_distances_158 8 rfl rfl ?_
                            refine tw_if_ne (tgt := 172) X (In_of (by omega) (by omega)) dX5_distances_159 (by decide) (fun c159 => ?_) (fun c159 => ?_)
                            · skip
                              have hu : usable M o (e : Int) := ⟨by omega, c148, fun z => hal.elim (fun h => absurd (h.2.symm.trans z) (by decide)) (fun h => absurd h.1 c159)⟩
                              refine tw_aload X dX5_distances_172 0 rfl ?_
                              refine tw_iconst X dX5_distances_174 ?_
                              refine sr_ldR X (g := g) (M := M) (r := (e : Int)) (v := M 0 (e : Int)) ([(qa4, arI cy ((M 19 0).toNat) far2)] ++ [(qa11, arZ G ((M 19 0).toNat) (ups dn1 (nx) (1)))]) rfl (by omega) (by decide) rfl dX5_distances_175 ?_
                              have b6 := hB 0 (e : Int)
                              refine tw_iload X dX5_distances_176 4 rfl ?_
                              refine tw_icmp_ne (tgt := 188) X (In_of (by omega) (by omega)) (In_of (by omega) (by omega)) dX5_distances_178 (by decide) (fun c178 => ?_) (fun c178 => ?_)
                              · skip
                                refine tw_aload X dX5_distances_188 0 rfl ?_
                                refine tw_iconst X dX5_distances_190 ?_
                                refine sr_ldR X (g := g) (M := M) (r := (e : Int)) (v := M 1 (e : Int)) ([(qa4, arI cy ((M 19 0).toNat) far2)] ++ [(qa11, arZ G ((M 19 0).toNat) (ups dn1 (nx) (1)))]) rfl (by omega) (by decide) rfl dX5_distances_191 ?_
                                have b7 := hB 1 (e : Int)
                                refine tw_iload X dX5_distances_192 4 rfl ?_
                                refine tw_icmp_ne (tgt := 204) X (In_of (by omega) (by omega)) (In_of (by omega) (by omega)) dX5_distances_194 (by decide) (fun c194 => ?_) (fun c194 => ?_)
                                · skip
                                  refine tw_iconst X dX5_distances_204 ?_
                                  refine Tst (st' := [.int (enc (endF M (e : Int) nx))]) (by unfold endF; first | rw [if_pos c178] | rw [if_neg c178, if_pos c194] | rw [if_neg c178, if_neg c194]) ?_
                                  refine tw_istore (lv' := [(11, .int (enc (endF M (e : Int) nx))), (10, .ref (rr ((e : Int)).toNat)), (9, .int (enc ((e : Int)))), (8, .int (enc (M 16 0))), (7, .ref (q 1)), (6, .int (enc (nx))), (5, .int (enc ((k : Int)))), (0, .ref (q 0)), (1, .int (enc (src))), (2, .int (enc (al))), (3, .ref (qa4)), (4, .ref (qa11))]) X dX5_distances_205 (by decide) rfl ?_
                                  refine tw_iload X dX5_distances_207 0 rfl ?_
                                  have heb := endF_bd hF.r (r := (e : Int)) (a := nx) hu.1 hu.2.1
                                  refine tw_if_lt (tgt := 233) X (In_of (by omega) (by omega)) dX5_distances_209 (by decide) (fun c209 => ?_) (fun c209 => ?_)
                                  · skip
                                    have hJx := hJe
                                    have h9x := h9e
                                    have hRx := hRe.skip (Or.inr c209)
                                    refine tw_iinc (q := 2) (x := (e : Int)) (y := (e : Int) + 1) (lv' := [(9, .int (enc ((e : Int) + 1))), (11, .int (enc (endF M (e : Int) nx))), (10, .ref (rr ((e : Int)).toNat)), (8, .int (enc (M 16 0))), (7, .ref (q 1)), (6, .int (enc (nx))), (5, .int (enc ((k : Int)))), (0, .ref (q 0)), (1, .int (enc (src))), (2, .int (enc (al))), (3, .ref (qa4)), (4, .ref (qa11))]) X dX5_distances_233 rfl rfl (by decide) rfl ?_
                                    refine tw_goto (tgt := 144) X dX5_distances_236 (by decide) ?_
                                    refine Tsub (lv' := [(9, .int (enc ((e : Int) + 1))), (8, .int (enc (M 16 0))), (7, .ref (q 1)), (6, .int (enc (nx))), (5, .int (enc ((k : Int)))), (0, .ref (q 0)), (1, .int (enc (src))), (2, .int (enc (al))), (3, .ref (qa4)), (4, .ref (qa11))]) [0, 3, 4, 5, 6, 7, 8, 9, 10, 11] rfl ?_
                                    refine Teq (ws' := [(qa4, arI cy ((M 19 0).toNat) (far2))] ++ [(qa11, arZ G ((M 19 0).toNat) (ups dn1 (nx) (1)))] ++ wS G cy q rr tt M g) (lv' := [(9, .int (enc (((e + 1 : Nat) : Int)))), (8, .int (enc (M 16 0))), (7, .ref (q 1)), (6, .int (enc (nx))), (5, .int (enc ((k : Int)))), (0, .ref (q 0)), (1, .int (enc (src))), (2, .int (enc (al))), (3, .ref (qa4)), (4, .ref (qa11))]) (st' := []) (rfl) (lvc (i_succ e) (lvk (lvk (lvk (lvk (lvk (lvk (lvk (lvk (lvk (rfl))))))))))) rfl (ih144 (e + 1) (far2) (by omega) (by omega) (hJx) (hRx) (h9x))
                                  · skip
                                    have ger := endF_rng hF.r hu.1 hu.2.1 c209
                                    have fe := hJe.1 (endF M (e : Int) nx) c209 ger.2.2.1
                                    have fn := hJe.1 nx hnx.1 hnx.2
                                    have gl := hF.r.ln hu.1 hu.2.1
                                    have hJx := JF.lay hF.r hJe hnx h9e hu c209
                                    have hRx := RX.lay hF.r hJe hRe hnx (ups_same _ _ _) h9e hu c209
                                    have h9x : (ups far2 (endF M (e : Int) nx) (mn (far2 (endF M (e : Int) nx)) (far2 nx + len M (e : Int)))) nx < 999 := by rw [ups_ne _ (fun z => endF_neq hF.r hu.1 hu.2.1 c209 z.symm)]; exact h9e
                                    refine tw_aload_n X dX5_distances_212 10 rfl rfl ?_
                                    refine tw_iload X dX5_distances_213 0 rfl ?_
                                    refine tw_aload_n X dX5_distances_215 10 rfl rfl ?_
                                    refine tw_iload X dX5_distances_216 0 rfl ?_
                                    refine tw_iald X (N := (M 19 0).toNat) (f := far2) 0 rfl (by omega) (by omega) dX5_distances_218 ?_
                                    refine tw_aload_n X dX5_distances_219 10 rfl rfl ?_
                                    refine tw_iload X dX5_distances_220 5 rfl ?_
                                    refine tw_iald X (N := (M 19 0).toNat) (f := far2) 0 rfl (by omega) (by omega) dX5_distances_222 ?_
                                    refine tw_aload X dX5_distances_223 1 rfl ?_
                                    refine sr_length X sw_X5_22 (g := g) (M := M) (r := (e : Int)) ([(qa4, arI cy ((M 19 0).toNat) far2)] ++ [(qa11, arZ G ((M 19 0).toNat) (ups dn1 (nx) (1)))]) rfl (by omega) (Nat.le_of_ble_eq_true rfl) (Nat.le_of_ble_eq_true rfl) ⟨(show 0 + 1 + 1 ≤ 2 by omega), (show 0 + 10 + 10 ≤ 20 by omega)⟩ (Nat.le_of_ble_eq_true rfl) dX5_distances_225 ?_
                                    refine tw_iadd (z := (far2 nx) + (len M (e : Int))) X dX5_distances_228 rfl ?_
                                    refine tw_min (z := mn (far2 (endF M (e : Int) nx)) (far2 nx + len M (e : Int))) X (In_of (by omega) (by omega)) (In_of (by omega) (by omega)) wl_X5_26 wm_min_s wm_i wm_min_c (Nat.le_of_ble_eq_true rfl) (Nat.le_of_ble_eq_true rfl) ⟨(show 0 + 1 + 1 ≤ 2 by omega), (show 0 + 10 + 10 ≤ 20 by omega)⟩ dX5_distances_229 rfl ?_
                                    refine tw_iast X (N := (M 19 0).toNat) (f := far2) (ws' := [(qa4, arI cy ((M 19 0).toNat) (ups far2 (endF M (e : Int) nx) (mn (far2 (endF M (e : Int) nx)) (far2 nx + len M (e : Int)))))] ++ [(qa11, arZ G ((M 19 0).toNat) (ups dn1 (nx) (1)))] ++ wS G cy q rr tt M g) 0 rfl (by omega) (by omega) dX5_distances_232 rfl ?_
                                    refine tw_iinc (q := 2) (x := (e : Int)) (y := (e : Int) + 1) (lv' := [(9, .int (enc ((e : Int) + 1))), (11, .int (enc (endF M (e : Int) nx))), (10, .ref (rr ((e : Int)).toNat)), (8, .int (enc (M 16 0))), (7, .ref (q 1)), (6, .int (enc (nx))), (5, .int (enc ((k : Int)))), (0, .ref (q 0)), (1, .int (enc (src))), (2, .int (enc (al))), (3, .ref (qa4)), (4, .ref (qa11))]) X dX5_distances_233 rfl rfl (by decide) rfl ?_
                                    refine tw_goto (tgt := 144) X dX5_distances_236 (by decide) ?_
                                    refine Tsub (lv' := [(9, .int (enc ((e : Int) + 1))), (8, .int (enc (M 16 0))), (7, .ref (q 1)), (6, .int (enc (nx))), (5, .int (enc ((k : Int)))), (0, .ref (q 0)), (1, .int (enc (src))), (2, .int (enc (al))), (3, .ref (qa4)), (4, .ref (qa11))]) [0, 3, 4, 5, 6, 7, 8, 9, 10, 11] rfl ?_
                                    refine Teq (ws' := [(qa4, arI cy ((M 19 0).toNat) ((ups far2 (endF M (e : Int) nx) (mn (far2 (endF M (e : Int) nx)) (far2 nx + len M (e : Int))))))] ++ [(qa11, arZ G ((M 19 0).toNat) (ups dn1 (nx) (1)))] ++ wS G cy q rr tt M g) (lv' := [(9, .int (enc (((e + 1 : Nat) : Int)))), (8, .int (enc (M 16 0))), (7, .ref (q 1)), (6, .int (enc (nx))), (5, .int (enc ((k : Int)))), (0, .ref (q 0)), (1, .int (enc (src))), (2, .int (enc (al))), (3, .ref (qa4)), (4, .ref (qa11))]) (st' := []) (rfl) (lvc (i_succ e) (lvk (lvk (lvk (lvk (lvk (lvk (lvk (lvk (lvk (rfl))))))))))) rfl (ih144 (e + 1) ((ups far2 (endF M (e : Int) nx) (mn (far2 (endF M (e : Int) nx)) (far2 nx + len M (e : Int))))) (by omega) (by omega) (hJx) (hRx) (h9x))
                                · skip
                                  refine tw_aload X dX5_distances_197 0 rfl ?_
                                  refine tw_iconst X dX5_distances_199 ?_
                                  refine sr_ldR X (g := g) (M := M) (r := (e : Int)) (v := M 0 (e : Int)) ([(qa4, arI cy ((M 19 0).toNat) far2)] ++ [(qa11, arZ G ((M 19 0).toNat) (ups dn1 (nx) (1)))]) rfl (by omega) (by decide) rfl dX5_distances_200 ?_
                                  have b8 := hB 0 (e : Int)
                                  refine tw_goto (tgt := 205) X dX5_distances_201 (by decide) ?_
                                  refine Tst (st' := [.int (enc (endF M (e : Int) nx))]) (by unfold endF; first | rw [if_pos c178] | rw [if_neg c178, if_pos c194] | rw [if_neg c178, if_neg c194]) ?_
                                  refine tw_istore (lv' := [(11, .int (enc (endF M (e : Int) nx))), (10, .ref (rr ((e : Int)).toNat)), (9, .int (enc ((e : Int)))), (8, .int (enc (M 16 0))), (7, .ref (q 1)), (6, .int (enc (nx))), (5, .int (enc ((k : Int)))), (0, .ref (q 0)), (1, .int (enc (src))), (2, .int (enc (al))), (3, .ref (qa4)), (4, .ref (qa11))]) X dX5_distances_205 (by decide) rfl ?_
                                  refine tw_iload X dX5_distances_207 0 rfl ?_
                                  have heb := endF_bd hF.r (r := (e : Int)) (a := nx) hu.1 hu.2.1
                                  refine tw_if_lt (tgt := 233) X (In_of (by omega) (by omega)) dX5_distances_209 (by decide) (fun c209 => ?_) (fun c209 => ?_)
                                  · skip
                                    have hJx := hJe
                                    have h9x := h9e
                                    have hRx := hRe.skip (Or.inr c209)
                                    refine tw_iinc (q := 2) (x := (e : Int)) (y := (e : Int) + 1) (lv' := [(9, .int (enc ((e : Int) + 1))), (11, .int (enc (endF M (e : Int) nx))), (10, .ref (rr ((e : Int)).toNat)), (8, .int (enc (M 16 0))), (7, .ref (q 1)), (6, .int (enc (nx))), (5, .int (enc ((k : Int)))), (0, .ref (q 0)), (1, .int (enc (src))), (2, .int (enc (al))), (3, .ref (qa4)), (4, .ref (qa11))]) X dX5_distances_233 rfl rfl (by decide) rfl ?_
                                    refine tw_goto (tgt := 144) X dX5_distances_236 (by decide) ?_
                                    refine Tsub (lv' := [(9, .int (enc ((e : Int) + 1))), (8, .int (enc (M 16 0))), (7, .ref (q 1)), (6, .int (enc (nx))), (5, .int (enc ((k : Int)))), (0, .ref (q 0)), (1, .int (enc (src))), (2, .int (enc (al))), (3, .ref (qa4)), (4, .ref (qa11))]) [0, 3, 4, 5, 6, 7, 8, 9, 10, 11] rfl ?_
                                    refine Teq (ws' := [(qa4, arI cy ((M 19 0).toNat) (far2))] ++ [(qa11, arZ G ((M 19 0).toNat) (ups dn1 (nx) (1)))] ++ wS G cy q rr tt M g) (lv' := [(9, .int (enc (((e + 1 : Nat) : Int)))), (8, .int (enc (M 16 0))), (7, .ref (q 1)), (6, .int (enc (nx))), (5, .int (enc ((k : Int)))), (0, .ref (q 0)), (1, .int (enc (src))), (2, .int (enc (al))), (3, .ref (qa4)), (4, .ref (qa11))]) (st' := []) (rfl) (lvc (i_succ e) (lvk (lvk (lvk (lvk (lvk (lvk (lvk (lvk (lvk (rfl))))))))))) rfl (ih144 (e + 1) (far2) (by omega) (by omega) (hJx) (hRx) (h9x))
                                  · skip
                                    have ger := endF_rng hF.r hu.1 hu.2.1 c209
                                    have fe := hJe.1 (endF M (e : Int) nx) c209 ger.2.2.1
                                    have fn := hJe.1 nx hnx.1 hnx.2
                                    have gl := hF.r.ln hu.1 hu.2.1
                                    have hJx := JF.lay hF.r hJe hnx h9e hu c209
                                    have hRx := RX.lay hF.r hJe hRe hnx (ups_same _ _ _) h9e hu c209
                                    have h9x : (ups far2 (endF M (e : Int) nx) (mn (far2 (endF M (e : Int) nx)) (far2 nx + len M (e : Int)))) nx < 999 := by rw [ups_ne _ (fun z => endF_neq hF.r hu.1 hu.2.1 c209 z.symm)]; exact h9e
                                    refine tw_aload_n X dX5_distances_212 10 rfl rfl ?_
                                    refine tw_iload X dX5_distances_213 0 rfl ?_
                                    refine tw_aload_n X dX5_distances_215 10 rfl rfl ?_
                                    refine tw_iload X dX5_distances_216 0 rfl ?_
                                    refine tw_iald X (N := (M 19 0).toNat) (f := far2) 0 rfl (by omega) (by omega) dX5_distances_218 ?_
                                    refine tw_aload_n X dX5_distances_219 10 rfl rfl ?_
                                    refine tw_iload X dX5_distances_220 5 rfl ?_
                                    refine tw_iald X (N := (M 19 0).toNat) (f := far2) 0 rfl (by omega) (by omega) dX5_distances_222 ?_
                                    refine tw_aload X dX5_distances_223 1 rfl ?_
                                    refine sr_length X sw_X5_22 (g := g) (M := M) (r := (e : Int)) ([(qa4, arI cy ((M 19 0).toNat) far2)] ++ [(qa11, arZ G ((M 19 0).toNat) (ups dn1 (nx) (1)))]) rfl (by omega) (Nat.le_of_ble_eq_true rfl) (Nat.le_of_ble_eq_true rfl) ⟨(show 0 + 1 + 1 ≤ 2 by omega), (show 0 + 10 + 10 ≤ 20 by omega)⟩ (Nat.le_of_ble_eq_true rfl) dX5_distances_225 ?_
                                    refine tw_iadd (z := (far2 nx) + (len M (e : Int))) X dX5_distances_228 rfl ?_
                                    refine tw_min (z := mn (far2 (endF M (e : Int) nx)) (far2 nx + len M (e : Int))) X (In_of (by omega) (by omega)) (In_of (by omega) (by omega)) wl_X5_26 wm_min_s wm_i wm_min_c (Nat.le_of_ble_eq_true rfl) (Nat.le_of_ble_eq_true rfl) ⟨(show 0 + 1 + 1 ≤ 2 by omega), (show 0 + 10 + 10 ≤ 20 by omega)⟩ dX5_distances_229 rfl ?_
                                    refine tw_iast X (N := (M 19 0).toNat) (f := far2) (ws' := [(qa4, arI cy ((M 19 0).toNat) (ups far2 (endF M (e : Int) nx) (mn (far2 (endF M (e : Int) nx)) (far2 nx + len M (e : Int)))))] ++ [(qa11, arZ G ((M 19 0).toNat) (ups dn1 (nx) (1)))] ++ wS G cy q rr tt M g) 0 rfl (by omega) (by omega) dX5_distances_232 rfl ?_
                                    refine tw_iinc (q := 2) (x := (e : Int)) (y := (e : Int) + 1) (lv' := [(9, .int (enc ((e : Int) + 1))), (11, .int (enc (endF M (e : Int) nx))), (10, .ref (rr ((e : Int)).toNat)), (8, .int (enc (M 16 0))), (7, .ref (q 1)), (6, .int (enc (nx))), (5, .int (enc ((k : Int)))), (0, .ref (q 0)), (1, .int (enc (src))), (2, .int (enc (al))), (3, .ref (qa4)), (4, .ref (qa11))]) X dX5_distances_233 rfl rfl (by decide) rfl ?_
                                    refine tw_goto (tgt := 144) X dX5_distances_236 (by decide) ?_
                                    refine Tsub (lv' := [(9, .int (enc ((e : Int) + 1))), (8, .int (enc (M 16 0))), (7, .ref (q 1)), (6, .int (enc (nx))), (5, .int (enc ((k : Int)))), (0, .ref (q 0)), (1, .int (enc (src))), (2, .int (enc (al))), (3, .ref (qa4)), (4, .ref (qa11))]) [0, 3, 4, 5, 6, 7, 8, 9, 10, 11] rfl ?_
                                    refine Teq (ws' := [(qa4, arI cy ((M 19 0).toNat) ((ups far2 (endF M (e : Int) nx) (mn (far2 (endF M (e : Int) nx)) (far2 nx + len M (e : Int))))))] ++ [(qa11, arZ G ((M 19 0).toNat) (ups dn1 (nx) (1)))] ++ wS G cy q rr tt M g) (lv' := [(9, .int (enc (((e + 1 : Nat) : Int)))), (8, .int (enc (M 16 0))), (7, .ref (q 1)), (6, .int (enc (nx))), (5, .int (enc ((k : Int)))), (0, .ref (q 0)), (1, .int (enc (src))), (2, .int (enc (al))), (3, .ref (qa4)), (4, .ref (qa11))]) (st' := []) (rfl) (lvc (i_succ e) (lvk (lvk (lvk (lvk (lvk (lvk (lvk (lvk (lvk (rfl))))))))))) rfl (ih144 (e + 1) ((ups far2 (endF M (e : Int) nx) (mn (far2 (endF M (e : Int) nx)) (far2 nx + len M (e : Int))))) (by omega) (by omega) (hJx) (hRx) (h9x))
                              · skip
                                refine tw_aload X dX5_distances_181 0 rfl ?_
                                refine tw_iconst X dX5_distances_183 ?_
                                refine sr_ldR X (g := g) (M := M) (r := (e : Int)) (v := M 1 (e : Int)) ([(qa4, arI cy ((M 19 0).toNat) far2)] ++ [(qa11, arZ G ((M 19 0).toNat) (ups dn1 (nx) (1)))]) rfl (by omega) (by decide) rfl dX5_distances_184 ?_
                                have b9 := hB 1 (e : Int)
                                refine tw_goto (tgt := 205) X dX5_distances_185 (by decide) ?_
                                refine Tst (st' := [.int (enc (endF M (e : Int) nx))]) (by unfold endF; first | rw [if_pos c178] | rw [if_neg c178, if_pos c194] | rw [if_neg c178, if_neg c194]) ?_
                                refine tw_istore (lv' := [(11, .int (enc (endF M (e : Int) nx))), (10, .ref (rr ((e : Int)).toNat)), (9, .int (enc ((e : Int)))), (8, .int (enc (M 16 0))), (7, .ref (q 1)), (6, .int (enc (nx))), (5, .int (enc ((k : Int)))), (0, .ref (q 0)), (1, .int (enc (src))), (2, .int (enc (al))), (3, .ref (qa4)), (4, .ref (qa11))]) X dX5_distances_205 (by decide) rfl ?_
                                refine tw_iload X dX5_distances_207 0 rfl ?_
                                have heb := endF_bd hF.r (r := (e : Int)) (a := nx) hu.1 hu.2.1
                                refine tw_if_lt (tgt := 233) X (In_of (by omega) (by omega)) dX5_distances_209 (by decide) (fun c209 => ?_) (fun c209 => ?_)
                                · skip
                                  have hJx := hJe
                                  have h9x := h9e
                                  have hRx := hRe.skip (Or.inr c209)
                                  refine tw_iinc (q := 2) (x := (e : Int)) (y := (e : Int) + 1) (lv' := [(9, .int (enc ((e : Int) + 1))), (11, .int (enc (endF M (e : Int) nx))), (10, .ref (rr ((e : Int)).toNat)), (8, .int (enc (M 16 0))), (7, .ref (q 1)), (6, .int (enc (nx))), (5, .int (enc ((k : Int)))), (0, .ref (q 0)), (1, .int (enc (src))), (2, .int (enc (al))), (3, .ref (qa4)), (4, .ref (qa11))]) X dX5_distances_233 rfl rfl (by decide) rfl ?_
                                  refine tw_goto (tgt := 144) X dX5_distances_236 (by decide) ?_
                                  refine Tsub (lv' := [(9, .int (enc ((e : Int) + 1))), (8, .int (enc (M 16 0))), (7, .ref (q 1)), (6, .int (enc (nx))), (5, .int (enc ((k : Int)))), (0, .ref (q 0)), (1, .int (enc (src))), (2, .int (enc (al))), (3, .ref (qa4)), (4, .ref (qa11))]) [0, 3, 4, 5, 6, 7, 8, 9, 10, 11] rfl ?_
                                  refine Teq (ws' := [(qa4, arI cy ((M 19 0).toNat) (far2))] ++ [(qa11, arZ G ((M 19 0).toNat) (ups dn1 (nx) (1)))] ++ wS G cy q rr tt M g) (lv' := [(9, .int (enc (((e + 1 : Nat) : Int)))), (8, .int (enc (M 16 0))), (7, .ref (q 1)), (6, .int (enc (nx))), (5, .int (enc ((k : Int)))), (0, .ref (q 0)), (1, .int (enc (src))), (2, .int (enc (al))), (3, .ref (qa4)), (4, .ref (qa11))]) (st' := []) (rfl) (lvc (i_succ e) (lvk (lvk (lvk (lvk (lvk (lvk (lvk (lvk (lvk (rfl))))))))))) rfl (ih144 (e + 1) (far2) (by omega) (by omega) (hJx) (hRx) (h9x))
                                · skip
                                  have ger := endF_rng hF.r hu.1 hu.2.1 c209
                                  have fe := hJe.1 (endF M (e : Int) nx) c209 ger.2.2.1
                                  have fn := hJe.1 nx hnx.1 hnx.2
                                  have gl := hF.r.ln hu.1 hu.2.1
                                  have hJx := JF.lay hF.r hJe hnx h9e hu c209
                                  have hRx := RX.lay hF.r hJe hRe hnx (ups_same _ _ _) h9e hu c209
                                  have h9x : (ups far2 (endF M (e : Int) nx) (mn (far2 (endF M (e : Int) nx)) (far2 nx + len M (e : Int)))) nx < 999 := by rw [ups_ne _ (fun z => endF_neq hF.r hu.1 hu.2.1 c209 z.symm)]; exact h9e
                                  refine tw_aload_n X dX5_distances_212 10 rfl rfl ?_
                                  refine tw_iload X dX5_distances_213 0 rfl ?_
                                  refine tw_aload_n X dX5_distances_215 10 rfl rfl ?_
                                  refine tw_iload X dX5_distances_216 0 rfl ?_
                                  refine tw_iald X (N := (M 19 0).toNat) (f := far2) 0 rfl (by omega) (by omega) dX5_distances_218 ?_
                                  refine tw_aload_n X dX5_distances_219 10 rfl rfl ?_
                                  refine tw_iload X dX5_distances_220 5 rfl ?_
                                  refine tw_iald X (N := (M 19 0).toNat) (f := far2) 0 rfl (by omega) (by omega) dX5_distances_222 ?_
                                  refine tw_aload X dX5_distances_223 1 rfl ?_
                                  refine sr_length X sw_X5_22 (g := g) (M := M) (r := (e : Int)) ([(qa4, arI cy ((M 19 0).toNat) far2)] ++ [(qa11, arZ G ((M 19 0).toNat) (ups dn1 (nx) (1)))]) rfl (by omega) (Nat.le_of_ble_eq_true rfl) (Nat.le_of_ble_eq_true rfl) ⟨(show 0 + 1 + 1 ≤ 2 by omega), (show 0 + 10 + 10 ≤ 20 by omega)⟩ (Nat.le_of_ble_eq_true rfl) dX5_distances_225 ?_
                                  refine tw_iadd (z := (far2 nx) + (len M (e : Int))) X dX5_distances_228 rfl ?_
                                  refine tw_min (z := mn (far2 (endF M (e : Int) nx)) (far2 nx + len M (e : Int))) X (In_of (by omega) (by omega)) (In_of (by omega) (by omega)) wl_X5_26 wm_min_s wm_i wm_min_c (Nat.le_of_ble_eq_true rfl) (Nat.le_of_ble_eq_true rfl) ⟨(show 0 + 1 + 1 ≤ 2 by omega), (show 0 + 10 + 10 ≤ 20 by omega)⟩ dX5_distances_229 rfl ?_
                                  refine tw_iast X (N := (M 19 0).toNat) (f := far2) (ws' := [(qa4, arI cy ((M 19 0).toNat) (ups far2 (endF M (e : Int) nx) (mn (far2 (endF M (e : Int) nx)) (far2 nx + len M (e : Int)))))] ++ [(qa11, arZ G ((M 19 0).toNat) (ups dn1 (nx) (1)))] ++ wS G cy q rr tt M g) 0 rfl (by omega) (by omega) dX5_distances_232 rfl ?_
                                  refine tw_iinc (q := 2) (x := (e : Int)) (y := (e : Int) + 1) (lv' := [(9, .int (enc ((e : Int) + 1))), (11, .int (enc (endF M (e : Int) nx))), (10, .ref (rr ((e : Int)).toNat)), (8, .int (enc (M 16 0))), (7, .ref (q 1)), (6, .int (enc (nx))), (5, .int (enc ((k : Int)))), (0, .ref (q 0)), (1, .int (enc (src))), (2, .int (enc (al))), (3, .ref (qa4)), (4, .ref (qa11))]) X dX5_distances_233 rfl rfl (by decide) rfl ?_
                                  refine tw_goto (tgt := 144) X dX5_distances_236 (by decide) ?_
                                  refine Tsub (lv' := [(9, .int (enc ((e : Int) + 1))), (8, .int (enc (M 16 0))), (7, .ref (q 1)), (6, .int (enc (nx))), (5, .int (enc ((k : Int)))), (0, .ref (q 0)), (1, .int (enc (src))), (2, .int (enc (al))), (3, .ref (qa4)), (4, .ref (qa11))]) [0, 3, 4, 5, 6, 7, 8, 9, 10, 11] rfl ?_
                                  refine Teq (ws' := [(qa4, arI cy ((M 19 0).toNat) ((ups far2 (endF M (e : Int) nx) (mn (far2 (endF M (e : Int) nx)) (far2 nx + len M (e : Int))))))] ++ [(qa11, arZ G ((M 19 0).toNat) (ups dn1 (nx) (1)))] ++ wS G cy q rr tt M g) (lv' := [(9, .int (enc (((e + 1 : Nat) : Int)))), (8, .int (enc (M 16 0))), (7, .ref (q 1)), (6, .int (enc (nx))), (5, .int (enc ((k : Int)))), (0, .ref (q 0)), (1, .int (enc (src))), (2, .int (enc (al))), (3, .ref (qa4)), (4, .ref (qa11))]) (st' := []) (rfl) (lvc (i_succ e) (lvk (lvk (lvk (lvk (lvk (lvk (lvk (lvk (lvk (rfl))))))))))) rfl (ih144 (e + 1) ((ups far2 (endF M (e : Int) nx) (mn (far2 (endF M (e : Int) nx)) (far2 nx + len M (e : Int))))) (by omega) (by omega) (hJx) (hRx) (h9x))
                            · skip
                              refine tw_aload X dX5_distances_162 0 rfl ?_
                              refine tw_iconst X dX5_distances_164 ?_
                              refine sr_ldR X (g := g) (M := M) (r := (e : Int)) (v := M 6 (e : Int)) ([(qa4, arI cy ((M 19 0).toNat) far2)] ++ [(qa11, arZ G ((M 19 0).toNat) (ups dn1 (nx) (1)))]) rfl (by omega) (by decide) rfl dX5_distances_165 ?_
                              have b10 := hB 6 (e : Int)
                              refine tw_if_le (tgt := 172) X (In_of (by omega) (by omega)) dX5_distances_166 (by decide) (fun c166 => ?_) (fun c166 => ?_)
                              · skip
                                have hu : usable M o (e : Int) := ⟨by omega, c148, fun _ => by omega⟩
                                refine tw_aload X dX5_distances_172 0 rfl ?_
                                refine tw_iconst X dX5_distances_174 ?_
                                refine sr_ldR X (g := g) (M := M) (r := (e : Int)) (v := M 0 (e : Int)) ([(qa4, arI cy ((M 19 0).toNat) far2)] ++ [(qa11, arZ G ((M 19 0).toNat) (ups dn1 (nx) (1)))]) rfl (by omega) (by decide) rfl dX5_distances_175 ?_
                                have b11 := hB 0 (e : Int)
                                refine tw_iload X dX5_distances_176 4 rfl ?_
                                refine tw_icmp_ne (tgt := 188) X (In_of (by omega) (by omega)) (In_of (by omega) (by omega)) dX5_distances_178 (by decide) (fun c178 => ?_) (fun c178 => ?_)
                                · skip
                                  refine tw_aload X dX5_distances_188 0 rfl ?_
                                  refine tw_iconst X dX5_distances_190 ?_
                                  refine sr_ldR X (g := g) (M := M) (r := (e : Int)) (v := M 1 (e : Int)) ([(qa4, arI cy ((M 19 0).toNat) far2)] ++ [(qa11, arZ G ((M 19 0).toNat) (ups dn1 (nx) (1)))]) rfl (by omega) (by decide) rfl dX5_distances_191 ?_
                                  have b12 := hB 1 (e : Int)
                                  refine tw_iload X dX5_distances_192 4 rfl ?_
                                  refine tw_icmp_ne (tgt := 204) X (In_of (by omega) (by omega)) (In_of (by omega) (by omega)) dX5_distances_194 (by decide) (fun c194 => ?_) (fun c194 => ?_)
                                  · skip
                                    refine tw_iconst X dX5_distances_204 ?_
                                    refine Tst (st' := [.int (enc (endF M (e : Int) nx))]) (by unfold endF; first | rw [if_pos c178] | rw [if_neg c178, if_pos c194] | rw [if_neg c178, if_neg c194]) ?_
                                    refine tw_istore (lv' := [(11, .int (enc (endF M (e : Int) nx))), (10, .ref (rr ((e : Int)).toNat)), (9, .int (enc ((e : Int)))), (8, .int (enc (M 16 0))), (7, .ref (q 1)), (6, .int (enc (nx))), (5, .int (enc ((k : Int)))), (0, .ref (q 0)), (1, .int (enc (src))), (2, .int (enc (al))), (3, .ref (qa4)), (4, .ref (qa11))]) X dX5_distances_205 (by decide) rfl ?_
                                    refine tw_iload X dX5_distances_207 0 rfl ?_
                                    have heb := endF_bd hF.r (r := (e : Int)) (a := nx) hu.1 hu.2.1
                                    refine tw_if_lt (tgt := 233) X (In_of (by omega) (by omega)) dX5_distances_209 (by decide) (fun c209 => ?_) (fun c209 => ?_)
                                    · skip
                                      have hJx := hJe
                                      have h9x := h9e
                                      have hRx := hRe.skip (Or.inr c209)
                                      refine tw_iinc (q := 2) (x := (e : Int)) (y := (e : Int) + 1) (lv' := [(9, .int (enc ((e : Int) + 1))), (11, .int (enc (endF M (e : Int) nx))), (10, .ref (rr ((e : Int)).toNat)), (8, .int (enc (M 16 0))), (7, .ref (q 1)), (6, .int (enc (nx))), (5, .int (enc ((k : Int)))), (0, .ref (q 0)), (1, .int (enc (src))), (2, .int (enc (al))), (3, .ref (qa4)), (4, .ref (qa11))]) X dX5_distances_233 rfl rfl (by decide) rfl ?_
                                      refine tw_goto (tgt := 144) X dX5_distances_236 (by decide) ?_
                                      refine Tsub (lv' := [(9, .int (enc ((e : Int) + 1))), (8, .int (enc (M 16 0))), (7, .ref (q 1)), (6, .int (enc (nx))), (5, .int (enc ((k : Int)))), (0, .ref (q 0)), (1, .int (enc (src))), (2, .int (enc (al))), (3, .ref (qa4)), (4, .ref (qa11))]) [0, 3, 4, 5, 6, 7, 8, 9, 10, 11] rfl ?_
                                      refine Teq (ws' := [(qa4, arI cy ((M 19 0).toNat) (far2))] ++ [(qa11, arZ G ((M 19 0).toNat) (ups dn1 (nx) (1)))] ++ wS G cy q rr tt M g) (lv' := [(9, .int (enc (((e + 1 : Nat) : Int)))), (8, .int (enc (M 16 0))), (7, .ref (q 1)), (6, .int (enc (nx))), (5, .int (enc ((k : Int)))), (0, .ref (q 0)), (1, .int (enc (src))), (2, .int (enc (al))), (3, .ref (qa4)), (4, .ref (qa11))]) (st' := []) (rfl) (lvc (i_succ e) (lvk (lvk (lvk (lvk (lvk (lvk (lvk (lvk (lvk (rfl))))))))))) rfl (ih144 (e + 1) (far2) (by omega) (by omega) (hJx) (hRx) (h9x))
                                    · skip
                                      have ger := endF_rng hF.r hu.1 hu.2.1 c209
                                      have fe := hJe.1 (endF M (e : Int) nx) c209 ger.2.2.1
                                      have fn := hJe.1 nx hnx.1 hnx.2
                                      have gl := hF.r.ln hu.1 hu.2.1
                                      have hJx := JF.lay hF.r hJe hnx h9e hu c209
                                      have hRx := RX.lay hF.r hJe hRe hnx (ups_same _ _ _) h9e hu c209
                                      have h9x : (ups far2 (endF M (e : Int) nx) (mn (far2 (endF M (e : Int) nx)) (far2 nx + len M (e : Int)))) nx < 999 := by rw [ups_ne _ (fun z => endF_neq hF.r hu.1 hu.2.1 c209 z.symm)]; exact h9e
                                      refine tw_aload_n X dX5_distances_212 10 rfl rfl ?_
                                      refine tw_iload X dX5_distances_213 0 rfl ?_
                                      refine tw_aload_n X dX5_distances_215 10 rfl rfl ?_
                                      refine tw_iload X dX5_distances_216 0 rfl ?_
                                      refine tw_iald X (N := (M 19 0).toNat) (f := far2) 0 rfl (by omega) (by omega) dX5_distances_218 ?_
                                      refine tw_aload_n X dX5_distances_219 10 rfl rfl ?_
                                      refine tw_iload X dX5_distances_220 5 rfl ?_
                                      refine tw_iald X (N := (M 19 0).toNat) (f := far2) 0 rfl (by omega) (by omega) dX5_distances_222 ?_
                                      refine tw_aload X dX5_distances_223 1 rfl ?_
                                      refine sr_length X sw_X5_22 (g := g) (M := M) (r := (e : Int)) ([(qa4, arI cy ((M 19 0).toNat) far2)] ++ [(qa11, arZ G ((M 19 0).toNat) (ups dn1 (nx) (1)))]) rfl (by omega) (Nat.le_of_ble_eq_true rfl) (Nat.le_of_ble_eq_true rfl) ⟨(show 0 + 1 + 1 ≤ 2 by omega), (show 0 + 10 + 10 ≤ 20 by omega)⟩ (Nat.le_of_ble_eq_true rfl) dX5_distances_225 ?_
                                      refine tw_iadd (z := (far2 nx) + (len M (e : Int))) X dX5_distances_228 rfl ?_
                                      refine tw_min (z := mn (far2 (endF M (e : Int) nx)) (far2 nx + len M (e : Int))) X (In_of (by omega) (by omega)) (In_of (by omega) (by omega)) wl_X5_26 wm_min_s wm_i wm_min_c (Nat.le_of_ble_eq_true rfl) (Nat.le_of_ble_eq_true rfl) ⟨(show 0 + 1 + 1 ≤ 2 by omega), (show 0 + 10 + 10 ≤ 20 by omega)⟩ dX5_distances_229 rfl ?_
                                      refine tw_iast X (N := (M 19 0).toNat) (f := far2) (ws' := [(qa4, arI cy ((M 19 0).toNat) (ups far2 (endF M (e : Int) nx) (mn (far2 (endF M (e : Int) nx)) (far2 nx + len M (e : Int)))))] ++ [(qa11, arZ G ((M 19 0).toNat) (ups dn1 (nx) (1)))] ++ wS G cy q rr tt M g) 0 rfl (by omega) (by omega) dX5_distances_232 rfl ?_
                                      refine tw_iinc (q := 2) (x := (e : Int)) (y := (e : Int) + 1) (lv' := [(9, .int (enc ((e : Int) + 1))), (11, .int (enc (endF M (e : Int) nx))), (10, .ref (rr ((e : Int)).toNat)), (8, .int (enc (M 16 0))), (7, .ref (q 1)), (6, .int (enc (nx))), (5, .int (enc ((k : Int)))), (0, .ref (q 0)), (1, .int (enc (src))), (2, .int (enc (al))), (3, .ref (qa4)), (4, .ref (qa11))]) X dX5_distances_233 rfl rfl (by decide) rfl ?_
                                      refine tw_goto (tgt := 144) X dX5_distances_236 (by decide) ?_
                                      refine Tsub (lv' := [(9, .int (enc ((e : Int) + 1))), (8, .int (enc (M 16 0))), (7, .ref (q 1)), (6, .int (enc (nx))), (5, .int (enc ((k : Int)))), (0, .ref (q 0)), (1, .int (enc (src))), (2, .int (enc (al))), (3, .ref (qa4)), (4, .ref (qa11))]) [0, 3, 4, 5, 6, 7, 8, 9, 10, 11] rfl ?_
                                      refine Teq (ws' := [(qa4, arI cy ((M 19 0).toNat) ((ups far2 (endF M (e : Int) nx) (mn (far2 (endF M (e : Int) nx)) (far2 nx + len M (e : Int))))))] ++ [(qa11, arZ G ((M 19 0).toNat) (ups dn1 (nx) (1)))] ++ wS G cy q rr tt M g) (lv' := [(9, .int (enc (((e + 1 : Nat) : Int)))), (8, .int (enc (M 16 0))), (7, .ref (q 1)), (6, .int (enc (nx))), (5, .int (enc ((k : Int)))), (0, .ref (q 0)), (1, .int (enc (src))), (2, .int (enc (al))), (3, .ref (qa4)), (4, .ref (qa11))]) (st' := []) (rfl) (lvc (i_succ e) (lvk (lvk (lvk (lvk (lvk (lvk (lvk (lvk (lvk (rfl))))))))))) rfl (ih144 (e + 1) ((ups far2 (endF M (e : Int) nx) (mn (far2 (endF M (e : Int) nx)) (far2 nx + len M (e : Int))))) (by omega) (by omega) (hJx) (hRx) (h9x))
                                  · skip
                                    refine tw_aload X dX5_distances_197 0 rfl ?_
                                    refine tw_iconst X dX5_distances_199 ?_
                                    refine sr_ldR X (g := g) (M := M) (r := (e : Int)) (v := M 0 (e : Int)) ([(qa4, arI cy ((M 19 0).toNat) far2)] ++ [(qa11, arZ G ((M 19 0).toNat) (ups dn1 (nx) (1)))]) rfl (by omega) (by decide) rfl dX5_distances_200 ?_
                                    have b13 := hB 0 (e : Int)
                                    refine tw_goto (tgt := 205) X dX5_distances_201 (by decide) ?_
                                    refine Tst (st' := [.int (enc (endF M (e : Int) nx))]) (by unfold endF; first | rw [if_pos c178] | rw [if_neg c178, if_pos c194] | rw [if_neg c178, if_neg c194]) ?_
                                    refine tw_istore (lv' := [(11, .int (enc (endF M (e : Int) nx))), (10, .ref (rr ((e : Int)).toNat)), (9, .int (enc ((e : Int)))), (8, .int (enc (M 16 0))), (7, .ref (q 1)), (6, .int (enc (nx))), (5, .int (enc ((k : Int)))), (0, .ref (q 0)), (1, .int (enc (src))), (2, .int (enc (al))), (3, .ref (qa4)), (4, .ref (qa11))]) X dX5_distances_205 (by decide) rfl ?_
                                    refine tw_iload X dX5_distances_207 0 rfl ?_
                                    have heb := endF_bd hF.r (r := (e : Int)) (a := nx) hu.1 hu.2.1
                                    refine tw_if_lt (tgt := 233) X (In_of (by omega) (by omega)) dX5_distances_209 (by decide) (fun c209 => ?_) (fun c209 => ?_)
                                    · skip
                                      have hJx := hJe
                                      have h9x := h9e
                                      have hRx := hRe.skip (Or.inr c209)
                                      refine tw_iinc (q := 2) (x := (e : Int)) (y := (e : Int) + 1) (lv' := [(9, .int (enc ((e : Int) + 1))), (11, .int (enc (endF M (e : Int) nx))), (10, .ref (rr ((e : Int)).toNat)), (8, .int (enc (M 16 0))), (7, .ref (q 1)), (6, .int (enc (nx))), (5, .int (enc ((k : Int)))), (0, .ref (q 0)), (1, .int (enc (src))), (2, .int (enc (al))), (3, .ref (qa4)), (4, .ref (qa11))]) X dX5_distances_233 rfl rfl (by decide) rfl ?_
                                      refine tw_goto (tgt := 144) X dX5_distances_236 (by decide) ?_
                                      refine Tsub (lv' := [(9, .int (enc ((e : Int) + 1))), (8, .int (enc (M 16 0))), (7, .ref (q 1)), (6, .int (enc (nx))), (5, .int (enc ((k : Int)))), (0, .ref (q 0)), (1, .int (enc (src))), (2, .int (enc (al))), (3, .ref (qa4)), (4, .ref (qa11))]) [0, 3, 4, 5, 6, 7, 8, 9, 10, 11] rfl ?_
                                      refine Teq (ws' := [(qa4, arI cy ((M 19 0).toNat) (far2))] ++ [(qa11, arZ G ((M 19 0).toNat) (ups dn1 (nx) (1)))] ++ wS G cy q rr tt M g) (lv' := [(9, .int (enc (((e + 1 : Nat) : Int)))), (8, .int (enc (M 16 0))), (7, .ref (q 1)), (6, .int (enc (nx))), (5, .int (enc ((k : Int)))), (0, .ref (q 0)), (1, .int (enc (src))), (2, .int (enc (al))), (3, .ref (qa4)), (4, .ref (qa11))]) (st' := []) (rfl) (lvc (i_succ e) (lvk (lvk (lvk (lvk (lvk (lvk (lvk (lvk (lvk (rfl))))))))))) rfl (ih144 (e + 1) (far2) (by omega) (by omega) (hJx) (hRx) (h9x))
                                    · skip
                                      have ger := endF_rng hF.r hu.1 hu.2.1 c209
                                      have fe := hJe.1 (endF M (e : Int) nx) c209 ger.2.2.1
                                      have fn := hJe.1 nx hnx.1 hnx.2
                                      have gl := hF.r.ln hu.1 hu.2.1
                                      have hJx := JF.lay hF.r hJe hnx h9e hu c209
                                      have hRx := RX.lay hF.r hJe hRe hnx (ups_same _ _ _) h9e hu c209
                                      have h9x : (ups far2 (endF M (e : Int) nx) (mn (far2 (endF M (e : Int) nx)) (far2 nx + len M (e : Int)))) nx < 999 := by rw [ups_ne _ (fun z => endF_neq hF.r hu.1 hu.2.1 c209 z.symm)]; exact h9e
                                      refine tw_aload_n X dX5_distances_212 10 rfl rfl ?_
                                      refine tw_iload X dX5_distances_213 0 rfl ?_
                                      refine tw_aload_n X dX5_distances_215 10 rfl rfl ?_
                                      refine tw_iload X dX5_distances_216 0 rfl ?_
                                      refine tw_iald X (N := (M 19 0).toNat) (f := far2) 0 rfl (by omega) (by omega) dX5_distances_218 ?_
                                      refine tw_aload_n X dX5_distances_219 10 rfl rfl ?_
                                      refine tw_iload X dX5_distances_220 5 rfl ?_
                                      refine tw_iald X (N := (M 19 0).toNat) (f := far2) 0 rfl (by omega) (by omega) dX5_distances_222 ?_
                                      refine tw_aload X dX5_distances_223 1 rfl ?_
                                      refine sr_length X sw_X5_22 (g := g) (M := M) (r := (e : Int)) ([(qa4, arI cy ((M 19 0).toNat) far2)] ++ [(qa11, arZ G ((M 19 0).toNat) (ups dn1 (nx) (1)))]) rfl (by omega) (Nat.le_of_ble_eq_true rfl) (Nat.le_of_ble_eq_true rfl) ⟨(show 0 + 1 + 1 ≤ 2 by omega), (show 0 + 10 + 10 ≤ 20 by omega)⟩ (Nat.le_of_ble_eq_true rfl) dX5_distances_225 ?_
                                      refine tw_iadd (z := (far2 nx) + (len M (e : Int))) X dX5_distances_228 rfl ?_
                                      refine tw_min (z := mn (far2 (endF M (e : Int) nx)) (far2 nx + len M (e : Int))) X (In_of (by omega) (by omega)) (In_of (by omega) (by omega)) wl_X5_26 wm_min_s wm_i wm_min_c (Nat.le_of_ble_eq_true rfl) (Nat.le_of_ble_eq_true rfl) ⟨(show 0 + 1 + 1 ≤ 2 by omega), (show 0 + 10 + 10 ≤ 20 by omega)⟩ dX5_distances_229 rfl ?_
                                      refine tw_iast X (N := (M 19 0).toNat) (f := far2) (ws' := [(qa4, arI cy ((M 19 0).toNat) (ups far2 (endF M (e : Int) nx) (mn (far2 (endF M (e : Int) nx)) (far2 nx + len M (e : Int)))))] ++ [(qa11, arZ G ((M 19 0).toNat) (ups dn1 (nx) (1)))] ++ wS G cy q rr tt M g) 0 rfl (by omega) (by omega) dX5_distances_232 rfl ?_
                                      refine tw_iinc (q := 2) (x := (e : Int)) (y := (e : Int) + 1) (lv' := [(9, .int (enc ((e : Int) + 1))), (11, .int (enc (endF M (e : Int) nx))), (10, .ref (rr ((e : Int)).toNat)), (8, .int (enc (M 16 0))), (7, .ref (q 1)), (6, .int (enc (nx))), (5, .int (enc ((k : Int)))), (0, .ref (q 0)), (1, .int (enc (src))), (2, .int (enc (al))), (3, .ref (qa4)), (4, .ref (qa11))]) X dX5_distances_233 rfl rfl (by decide) rfl ?_
                                      refine tw_goto (tgt := 144) X dX5_distances_236 (by decide) ?_
                                      refine Tsub (lv' := [(9, .int (enc ((e : Int) + 1))), (8, .int (enc (M 16 0))), (7, .ref (q 1)), (6, .int (enc (nx))), (5, .int (enc ((k : Int)))), (0, .ref (q 0)), (1, .int (enc (src))), (2, .int (enc (al))), (3, .ref (qa4)), (4, .ref (qa11))]) [0, 3, 4, 5, 6, 7, 8, 9, 10, 11] rfl ?_
                                      refine Teq (ws' := [(qa4, arI cy ((M 19 0).toNat) ((ups far2 (endF M (e : Int) nx) (mn (far2 (endF M (e : Int) nx)) (far2 nx + len M (e : Int))))))] ++ [(qa11, arZ G ((M 19 0).toNat) (ups dn1 (nx) (1)))] ++ wS G cy q rr tt M g) (lv' := [(9, .int (enc (((e + 1 : Nat) : Int)))), (8, .int (enc (M 16 0))), (7, .ref (q 1)), (6, .int (enc (nx))), (5, .int (enc ((k : Int)))), (0, .ref (q 0)), (1, .int (enc (src))), (2, .int (enc (al))), (3, .ref (qa4)), (4, .ref (qa11))]) (st' := []) (rfl) (lvc (i_succ e) (lvk (lvk (lvk (lvk (lvk (lvk (lvk (lvk (lvk (rfl))))))))))) rfl (ih144 (e + 1) ((ups far2 (endF M (e : Int) nx) (mn (far2 (endF M (e : Int) nx)) (far2 nx + len M (e : Int))))) (by omega) (by omega) (hJx) (hRx) (h9x))
                                · skip
                                  refine tw_aload X dX5_distances_181 0 rfl ?_
                                  refine tw_iconst X dX5_distances_183 ?_
                                  refine sr_ldR X (g := g) (M := M) (r := (e : Int)) (v := M 1 (e : Int)) ([(qa4, arI cy ((M 19 0).toNat) far2)] ++ [(qa11, arZ G ((M 19 0).toNat) (ups dn1 (nx) (1)))]) rfl (by omega) (by decide) rfl dX5_distances_184 ?_
                                  have b14 := hB 1 (e : Int)
                                  refine tw_goto (tgt := 205) X dX5_distances_185 (by decide) ?_
                                  refine Tst (st' := [.int (enc (endF M (e : Int) nx))]) (by unfold endF; first | rw [if_pos c178] | rw [if_neg c178, if_pos c194] | rw [if_neg c178, if_neg c194]) ?_
                                  refine tw_istore (lv' := [(11, .int (enc (endF M (e : Int) nx))), (10, .ref (rr ((e : Int)).toNat)), (9, .int (enc ((e : Int)))), (8, .int (enc (M 16 0))), (7, .ref (q 1)), (6, .int (enc (nx))), (5, .int (enc ((k : Int)))), (0, .ref (q 0)), (1, .int (enc (src))), (2, .int (enc (al))), (3, .ref (qa4)), (4, .ref (qa11))]) X dX5_distances_205 (by decide) rfl ?_
                                  refine tw_iload X dX5_distances_207 0 rfl ?_
                                  have heb := endF_bd hF.r (r := (e : Int)) (a := nx) hu.1 hu.2.1
                                  refine tw_if_lt (tgt := 233) X (In_of (by omega) (by omega)) dX5_distances_209 (by decide) (fun c209 => ?_) (fun c209 => ?_)
                                  · skip
                                    have hJx := hJe
                                    have h9x := h9e
                                    have hRx := hRe.skip (Or.inr c209)
                                    refine tw_iinc (q := 2) (x := (e : Int)) (y := (e : Int) + 1) (lv' := [(9, .int (enc ((e : Int) + 1))), (11, .int (enc (endF M (e : Int) nx))), (10, .ref (rr ((e : Int)).toNat)), (8, .int (enc (M 16 0))), (7, .ref (q 1)), (6, .int (enc (nx))), (5, .int (enc ((k : Int)))), (0, .ref (q 0)), (1, .int (enc (src))), (2, .int (enc (al))), (3, .ref (qa4)), (4, .ref (qa11))]) X dX5_distances_233 rfl rfl (by decide) rfl ?_
                                    refine tw_goto (tgt := 144) X dX5_distances_236 (by decide) ?_
                                    refine Tsub (lv' := [(9, .int (enc ((e : Int) + 1))), (8, .int (enc (M 16 0))), (7, .ref (q 1)), (6, .int (enc (nx))), (5, .int (enc ((k : Int)))), (0, .ref (q 0)), (1, .int (enc (src))), (2, .int (enc (al))), (3, .ref (qa4)), (4, .ref (qa11))]) [0, 3, 4, 5, 6, 7, 8, 9, 10, 11] rfl ?_
                                    refine Teq (ws' := [(qa4, arI cy ((M 19 0).toNat) (far2))] ++ [(qa11, arZ G ((M 19 0).toNat) (ups dn1 (nx) (1)))] ++ wS G cy q rr tt M g) (lv' := [(9, .int (enc (((e + 1 : Nat) : Int)))), (8, .int (enc (M 16 0))), (7, .ref (q 1)), (6, .int (enc (nx))), (5, .int (enc ((k : Int)))), (0, .ref (q 0)), (1, .int (enc (src))), (2, .int (enc (al))), (3, .ref (qa4)), (4, .ref (qa11))]) (st' := []) (rfl) (lvc (i_succ e) (lvk (lvk (lvk (lvk (lvk (lvk (lvk (lvk (lvk (rfl))))))))))) rfl (ih144 (e + 1) (far2) (by omega) (by omega) (hJx) (hRx) (h9x))
                                  · skip
                                    have ger := endF_rng hF.r hu.1 hu.2.1 c209
                                    have fe := hJe.1 (endF M (e : Int) nx) c209 ger.2.2.1
                                    have fn := hJe.1 nx hnx.1 hnx.2
                                    have gl := hF.r.ln hu.1 hu.2.1
                                    have hJx := JF.lay hF.r hJe hnx h9e hu c209
                                    have hRx := RX.lay hF.r hJe hRe hnx (ups_same _ _ _) h9e hu c209
                                    have h9x : (ups far2 (endF M (e : Int) nx) (mn (far2 (endF M (e : Int) nx)) (far2 nx + len M (e : Int)))) nx < 999 := by rw [ups_ne _ (fun z => endF_neq hF.r hu.1 hu.2.1 c209 z.symm)]; exact h9e
                                    refine tw_aload_n X dX5_distances_212 10 rfl rfl ?_
                                    refine tw_iload X dX5_distances_213 0 rfl ?_
                                    refine tw_aload_n X dX5_distances_215 10 rfl rfl ?_
                                    refine tw_iload X dX5_distances_216 0 rfl ?_
                                    refine tw_iald X (N := (M 19 0).toNat) (f := far2) 0 rfl (by omega) (by omega) dX5_distances_218 ?_
                                    refine tw_aload_n X dX5_distances_219 10 rfl rfl ?_
                                    refine tw_iload X dX5_distances_220 5 rfl ?_
                                    refine tw_iald X (N := (M 19 0).toNat) (f := far2) 0 rfl (by omega) (by omega) dX5_distances_222 ?_
                                    refine tw_aload X dX5_distances_223 1 rfl ?_
                                    refine sr_length X sw_X5_22 (g := g) (M := M) (r := (e : Int)) ([(qa4, arI cy ((M 19 0).toNat) far2)] ++ [(qa11, arZ G ((M 19 0).toNat) (ups dn1 (nx) (1)))]) rfl (by omega) (Nat.le_of_ble_eq_true rfl) (Nat.le_of_ble_eq_true rfl) ⟨(show 0 + 1 + 1 ≤ 2 by omega), (show 0 + 10 + 10 ≤ 20 by omega)⟩ (Nat.le_of_ble_eq_true rfl) dX5_distances_225 ?_
                                    refine tw_iadd (z := (far2 nx) + (len M (e : Int))) X dX5_distances_228 rfl ?_
                                    refine tw_min (z := mn (far2 (endF M (e : Int) nx)) (far2 nx + len M (e : Int))) X (In_of (by omega) (by omega)) (In_of (by omega) (by omega)) wl_X5_26 wm_min_s wm_i wm_min_c (Nat.le_of_ble_eq_true rfl) (Nat.le_of_ble_eq_true rfl) ⟨(show 0 + 1 + 1 ≤ 2 by omega), (show 0 + 10 + 10 ≤ 20 by omega)⟩ dX5_distances_229 rfl ?_
                                    refine tw_iast X (N := (M 19 0).toNat) (f := far2) (ws' := [(qa4, arI cy ((M 19 0).toNat) (ups far2 (endF M (e : Int) nx) (mn (far2 (endF M (e : Int) nx)) (far2 nx + len M (e : Int)))))] ++ [(qa11, arZ G ((M 19 0).toNat) (ups dn1 (nx) (1)))] ++ wS G cy q rr tt M g) 0 rfl (by omega) (by omega) dX5_distances_232 rfl ?_
                                    refine tw_iinc (q := 2) (x := (e : Int)) (y := (e : Int) + 1) (lv' := [(9, .int (enc ((e : Int) + 1))), (11, .int (enc (endF M (e : Int) nx))), (10, .ref (rr ((e : Int)).toNat)), (8, .int (enc (M 16 0))), (7, .ref (q 1)), (6, .int (enc (nx))), (5, .int (enc ((k : Int)))), (0, .ref (q 0)), (1, .int (enc (src))), (2, .int (enc (al))), (3, .ref (qa4)), (4, .ref (qa11))]) X dX5_distances_233 rfl rfl (by decide) rfl ?_
                                    refine tw_goto (tgt := 144) X dX5_distances_236 (by decide) ?_
                                    refine Tsub (lv' := [(9, .int (enc ((e : Int) + 1))), (8, .int (enc (M 16 0))), (7, .ref (q 1)), (6, .int (enc (nx))), (5, .int (enc ((k : Int)))), (0, .ref (q 0)), (1, .int (enc (src))), (2, .int (enc (al))), (3, .ref (qa4)), (4, .ref (qa11))]) [0, 3, 4, 5, 6, 7, 8, 9, 10, 11] rfl ?_
                                    refine Teq (ws' := [(qa4, arI cy ((M 19 0).toNat) ((ups far2 (endF M (e : Int) nx) (mn (far2 (endF M (e : Int) nx)) (far2 nx + len M (e : Int))))))] ++ [(qa11, arZ G ((M 19 0).toNat) (ups dn1 (nx) (1)))] ++ wS G cy q rr tt M g) (lv' := [(9, .int (enc (((e + 1 : Nat) : Int)))), (8, .int (enc (M 16 0))), (7, .ref (q 1)), (6, .int (enc (nx))), (5, .int (enc ((k : Int)))), (0, .ref (q 0)), (1, .int (enc (src))), (2, .int (enc (al))), (3, .ref (qa4)), (4, .ref (qa11))]) (st' := []) (rfl) (lvc (i_succ e) (lvk (lvk (lvk (lvk (lvk (lvk (lvk (lvk (lvk (rfl))))))))))) rfl (ih144 (e + 1) ((ups far2 (endF M (e : Int) nx) (mn (far2 (endF M (e : Int) nx)) (far2 nx + len M (e : Int))))) (by omega) (by omega) (hJx) (hRx) (h9x))
                              · skip
                                have hJx := hJe
                                have h9x := h9e
                                have hRx := hRe.skip (Or.inl (fun z => hal.elim (fun h => by have := h.1; omega) (fun h => by have := z.2.2 h.2; omega)))
                                refine tw_goto (tgt := 233) X dX5_distances_169 (by decide) ?_
                                refine tw_iinc (q := 1) (x := (e : Int)) (y := (e : Int) + 1) (lv' := [(9, .int (enc ((e : Int) + 1))), (10, .ref (rr ((e : Int)).toNat)), (8, .int (enc (M 16 0))), (7, .ref (q 1)), (6, .int (enc (nx))), (5, .int (enc ((k : Int)))), (0, .ref (q 0)), (1, .int (enc (src))), (2, .int (enc (al))), (3, .ref (qa4)), (4, .ref (qa11))]) X dX5_distances_233 rfl rfl (by decide) rfl ?_
                                refine tw_goto (tgt := 144) X dX5_distances_236 (by decide) ?_
                                refine Tsub (lv' := [(9, .int (enc ((e : Int) + 1))), (8, .int (enc (M 16 0))), (7, .ref (q 1)), (6, .int (enc (nx))), (5, .int (enc ((k : Int)))), (0, .ref (q 0)), (1, .int (enc (src))), (2, .int (enc (al))), (3, .ref (qa4)), (4, .ref (qa11))]) [0, 2, 3, 4, 5, 6, 7, 8, 9, 10] rfl ?_
                                refine Teq (ws' := [(qa4, arI cy ((M 19 0).toNat) (far2))] ++ [(qa11, arZ G ((M 19 0).toNat) (ups dn1 (nx) (1)))] ++ wS G cy q rr tt M g) (lv' := [(9, .int (enc (((e + 1 : Nat) : Int)))), (8, .int (enc (M 16 0))), (7, .ref (q 1)), (6, .int (enc (nx))), (5, .int (enc ((k : Int)))), (0, .ref (q 0)), (1, .int (enc (src))), (2, .int (enc (al))), (3, .ref (qa4)), (4, .ref (qa11))]) (st' := []) (rfl) (lvc (i_succ e) (lvk (lvk (lvk (lvk (lvk (lvk (lvk (lvk (lvk (rfl))))))))))) rfl (ih144 (e + 1) (far2) (by omega) (by omega) (hJx) (hRx) (h9x))
                      refine Teq (ws' := [(qa4, arI cy ((M 19 0).toNat) (far1))] ++ [(qa11, arZ G ((M 19 0).toNat) (ups dn1 (nx) (1)))] ++ wS G cy q rr tt M g) (lv' := [(9, .int (enc (((0 : Nat) : Int)))), (8, .int (enc (M 16 0))), (7, .ref (q 1)), (6, .int (enc (nx))), (5, .int (enc ((k : Int)))), (0, .ref (q 0)), (1, .int (enc (src))), (2, .int (enc (al))), (3, .ref (qa4)), (4, .ref (qa11))]) (st' := []) (rfl) (rfl) rfl (L144 (M 16 0 + 1).toNat 0 (far1) (by omega) (by omega) (hJm) (RX.mark hR) (h9m))
                    · skip
                      have hJn := hJm
                      have hRn : RX M o far1 (ups dn1 nx 1) 0 (M 16 0) := RX.none (RX.mark hR) c124 0
                      refine tw_goto (tgt := 239) X dX5_distances_127 (by decide) ?_
                      refine tw_iinc (q := 2) (x := (k : Int)) (y := (k : Int) + 1) (lv' := [(5, .int (enc ((k : Int) + 1))), (7, .int (enc ((j : Int)))), (6, .int (enc (nx))), (0, .ref (q 0)), (1, .int (enc (src))), (2, .int (enc (al))), (3, .ref (qa4)), (4, .ref (qa11))]) X dX5_distances_239 rfl rfl (by decide) rfl ?_
                      refine tw_goto (tgt := 53) X dX5_distances_242 (by decide) ?_
                      refine Tsub (lv' := [(5, .int (enc ((k : Int) + 1))), (0, .ref (q 0)), (1, .int (enc (src))), (2, .int (enc (al))), (3, .ref (qa4)), (4, .ref (qa11))]) [0, 3, 4, 5, 6, 7] rfl ?_
                      refine Teq (ws' := [(qa4, arI cy ((M 19 0).toNat) (far1))] ++ [(qa11, arZ G ((M 19 0).toNat) ((ups dn1 (nx) (1))))] ++ wS G cy q rr tt M g) (lv' := [(5, .int (enc (((k + 1 : Nat) : Int)))), (0, .ref (q 0)), (1, .int (enc (src))), (2, .int (enc (al))), (3, .ref (qa4)), (4, .ref (qa11))]) (st' := []) (rfl) (lvc (i_succ k) (lvk (lvk (lvk (lvk (lvk (rfl))))))) rfl (ih53 (k + 1) (far1) ((ups dn1 (nx) (1))) (by omega) (by omega) (hJn) (hRn) (hsn))
                  · skip
                    refine tw_aload X dX5_distances_77 7 rfl ?_
                    refine tw_iload X dX5_distances_79 0 rfl ?_
                    refine tw_zald X (N := (M 19 0).toNat) (f := dn1) 1 rfl (by omega) (by omega) dX5_distances_81 ?_
                    have hjc := hJ.1 (j : Int) (by omega) c74
                    have hpr := hpk.rng
                    refine tw_if_ne (tgt := 105) X (In_of (by omega) (by omega)) dX5_distances_82 (by decide) (fun c82 => ?_) (fun c82 => ?_)
                    · skip
                      have hpn := hpk.done (show dn1 (j : Int) = 1 by omega)
                      refine tw_iinc (q := 0) (x := (j : Int)) (y := (j : Int) + 1) (lv' := [(7, .int (enc ((j : Int) + 1))), (6, .int (enc (nx))), (5, .int (enc ((k : Int)))), (0, .ref (q 0)), (1, .int (enc (src))), (2, .int (enc (al))), (3, .ref (qa4)), (4, .ref (qa11))]) X dX5_distances_105 rfl rfl (by decide) rfl ?_
                      refine tw_goto (tgt := 68) X dX5_distances_108 (by decide) ?_
                      refine Tsub (lv' := [(7, .int (enc ((j : Int) + 1))), (6, .int (enc (nx))), (5, .int (enc ((k : Int)))), (0, .ref (q 0)), (1, .int (enc (src))), (2, .int (enc (al))), (3, .ref (qa4)), (4, .ref (qa11))]) [0, 1, 2, 3, 4, 5, 6, 7] rfl ?_
                      refine Teq (ws' := [(qa4, arI cy ((M 19 0).toNat) far1)] ++ [(qa11, arZ G ((M 19 0).toNat) dn1)] ++ wS G cy q rr tt M g) (lv' := [(7, .int (enc (((j + 1 : Nat) : Int)))), (6, .int (enc ((nx)))), (5, .int (enc ((k : Int)))), (0, .ref (q 0)), (1, .int (enc (src))), (2, .int (enc (al))), (3, .ref (qa4)), (4, .ref (qa11))]) (st' := []) (rfl) (lvc (i_succ j) (lvk (lvk (lvk (lvk (lvk (lvk (lvk (rfl))))))))) rfl (ih68 (j + 1) (nx) (by omega) (by omega) (hpn))
                    · skip
                      refine tw_iload X dX5_distances_85 1 rfl ?_
                      refine tw_if_lt (tgt := 101) X (In_of (by omega) (by omega)) dX5_distances_87 (by decide) (fun c87 => ?_) (fun c87 => ?_)
                      · skip
                        have hpn := hpk.take (by omega) c82 (Or.inl c87)
                        refine tw_iload X dX5_distances_101 0 rfl ?_
                        refine tw_istore (lv' := [(6, .int (enc ((j : Int)))), (7, .int (enc ((j : Int)))), (5, .int (enc ((k : Int)))), (0, .ref (q 0)), (1, .int (enc (src))), (2, .int (enc (al))), (3, .ref (qa4)), (4, .ref (qa11))]) X dX5_distances_103 (by decide) rfl ?_
                        refine tw_iinc (q := 1) (x := (j : Int)) (y := (j : Int) + 1) (lv' := [(7, .int (enc ((j : Int) + 1))), (6, .int (enc ((j : Int)))), (5, .int (enc ((k : Int)))), (0, .ref (q 0)), (1, .int (enc (src))), (2, .int (enc (al))), (3, .ref (qa4)), (4, .ref (qa11))]) X dX5_distances_105 rfl rfl (by decide) rfl ?_
                        refine tw_goto (tgt := 68) X dX5_distances_108 (by decide) ?_
                        refine Tsub (lv' := [(7, .int (enc ((j : Int) + 1))), (6, .int (enc ((j : Int)))), (5, .int (enc ((k : Int)))), (0, .ref (q 0)), (1, .int (enc (src))), (2, .int (enc (al))), (3, .ref (qa4)), (4, .ref (qa11))]) [0, 1, 2, 3, 4, 5, 6, 7] rfl ?_
                        refine Teq (ws' := [(qa4, arI cy ((M 19 0).toNat) far1)] ++ [(qa11, arZ G ((M 19 0).toNat) dn1)] ++ wS G cy q rr tt M g) (lv' := [(7, .int (enc (((j + 1 : Nat) : Int)))), (6, .int (enc (((j : Int))))), (5, .int (enc ((k : Int)))), (0, .ref (q 0)), (1, .int (enc (src))), (2, .int (enc (al))), (3, .ref (qa4)), (4, .ref (qa11))]) (st' := []) (rfl) (lvc (i_succ j) (lvk (lvk (lvk (lvk (lvk (lvk (lvk (rfl))))))))) rfl (ih68 (j + 1) ((j : Int)) (by omega) (by omega) (hpn))
                      · skip
                        have hnc := hJ.1 nx c87 (by omega)
                        refine tw_aload_n X dX5_distances_90 6 rfl rfl ?_
                        refine tw_iload X dX5_distances_91 0 rfl ?_
                        refine tw_iald X (N := (M 19 0).toNat) (f := far1) 0 rfl (by omega) (by omega) dX5_distances_93 ?_
                        refine tw_aload_n X dX5_distances_94 6 rfl rfl ?_
                        refine tw_iload X dX5_distances_95 1 rfl ?_
                        refine tw_iald X (N := (M 19 0).toNat) (f := far1) 0 rfl (by omega) (by omega) dX5_distances_97 ?_
                        refine tw_icmp_ge (tgt := 105) X (In_of (by omega) (by omega)) (In_of (by omega) (by omega)) dX5_distances_98 (by decide) (fun c98 => ?_) (fun c98 => ?_)
                        · skip
                          have hpn := hpk.keep c87 c98
                          refine tw_iinc (q := 0) (x := (j : Int)) (y := (j : Int) + 1) (lv' := [(7, .int (enc ((j : Int) + 1))), (6, .int (enc (nx))), (5, .int (enc ((k : Int)))), (0, .ref (q 0)), (1, .int (enc (src))), (2, .int (enc (al))), (3, .ref (qa4)), (4, .ref (qa11))]) X dX5_distances_105 rfl rfl (by decide) rfl ?_
                          refine tw_goto (tgt := 68) X dX5_distances_108 (by decide) ?_
                          refine Tsub (lv' := [(7, .int (enc ((j : Int) + 1))), (6, .int (enc (nx))), (5, .int (enc ((k : Int)))), (0, .ref (q 0)), (1, .int (enc (src))), (2, .int (enc (al))), (3, .ref (qa4)), (4, .ref (qa11))]) [0, 1, 2, 3, 4, 5, 6, 7] rfl ?_
                          refine Teq (ws' := [(qa4, arI cy ((M 19 0).toNat) far1)] ++ [(qa11, arZ G ((M 19 0).toNat) dn1)] ++ wS G cy q rr tt M g) (lv' := [(7, .int (enc (((j + 1 : Nat) : Int)))), (6, .int (enc ((nx)))), (5, .int (enc ((k : Int)))), (0, .ref (q 0)), (1, .int (enc (src))), (2, .int (enc (al))), (3, .ref (qa4)), (4, .ref (qa11))]) (st' := []) (rfl) (lvc (i_succ j) (lvk (lvk (lvk (lvk (lvk (lvk (lvk (rfl))))))))) rfl (ih68 (j + 1) (nx) (by omega) (by omega) (hpn))
                        · skip
                          have hpn := hpk.take (by omega) c82 (Or.inr c98)
                          refine tw_iload X dX5_distances_101 0 rfl ?_
                          refine tw_istore (lv' := [(6, .int (enc ((j : Int)))), (7, .int (enc ((j : Int)))), (5, .int (enc ((k : Int)))), (0, .ref (q 0)), (1, .int (enc (src))), (2, .int (enc (al))), (3, .ref (qa4)), (4, .ref (qa11))]) X dX5_distances_103 (by decide) rfl ?_
                          refine tw_iinc (q := 1) (x := (j : Int)) (y := (j : Int) + 1) (lv' := [(7, .int (enc ((j : Int) + 1))), (6, .int (enc ((j : Int)))), (5, .int (enc ((k : Int)))), (0, .ref (q 0)), (1, .int (enc (src))), (2, .int (enc (al))), (3, .ref (qa4)), (4, .ref (qa11))]) X dX5_distances_105 rfl rfl (by decide) rfl ?_
                          refine tw_goto (tgt := 68) X dX5_distances_108 (by decide) ?_
                          refine Tsub (lv' := [(7, .int (enc ((j : Int) + 1))), (6, .int (enc ((j : Int)))), (5, .int (enc ((k : Int)))), (0, .ref (q 0)), (1, .int (enc (src))), (2, .int (enc (al))), (3, .ref (qa4)), (4, .ref (qa11))]) [0, 1, 2, 3, 4, 5, 6, 7] rfl ?_
                          refine Teq (ws' := [(qa4, arI cy ((M 19 0).toNat) far1)] ++ [(qa11, arZ G ((M 19 0).toNat) dn1)] ++ wS G cy q rr tt M g) (lv' := [(7, .int (enc (((j + 1 : Nat) : Int)))), (6, .int (enc (((j : Int))))), (5, .int (enc ((k : Int)))), (0, .ref (q 0)), (1, .int (enc (src))), (2, .int (enc (al))), (3, .ref (qa4)), (4, .ref (qa11))]) (st' := []) (rfl) (lvc (i_succ j) (lvk (lvk (lvk (lvk (lvk (lvk (lvk (rfl))))))))) rfl (ih68 (j + 1) ((j : Int)) (by omega) (by omega) (hpn))
              refine Teq (ws' := [(qa4, arI cy ((M 19 0).toNat) far1)] ++ [(qa11, arZ G ((M 19 0).toNat) dn1)] ++ wS G cy q rr tt M g) (lv' := [(7, .int (enc (((0 : Nat) : Int)))), (6, .int (enc ((-1)))), (5, .int (enc ((k : Int)))), (0, .ref (q 0)), (1, .int (enc (src))), (2, .int (enc (al))), (3, .ref (qa4)), (4, .ref (qa11))]) (st' := []) (rfl) (rfl) rfl (L68 (M 19 0 + 1).toNat 0 (-1) (by omega) (by omega) (PK.init))
        refine Teq (ws' := [(qa4, arI cy ((M 19 0).toNat) (far0))] ++ [(qa11, arZ G ((M 19 0).toNat) (fun _ => 0))] ++ wS G cy q rr tt M g) (lv' := [(5, .int (enc (((0 : Nat) : Int)))), (0, .ref (q 0)), (1, .int (enc (src))), (2, .int (enc (al))), (3, .ref (qa4)), (4, .ref (qa11))]) (st' := []) (rfl) (rfl) rfl (L53 (M 19 0 + 1).toNat 0 (far0) (fun _ => 0) (by omega) (by omega) (JF.init hF.r (fun c c0 c1 => hf c c0 (by omega)) hs) (RX.init) (sd_zero _))
      · skip
        refine tw_aload_n X dX5_distances_27 4 rfl rfl ?_
        refine tw_iload X dX5_distances_28 0 rfl ?_
        refine tw_iload X dX5_distances_30 0 rfl ?_
        refine tw_iload_n X dX5_distances_32 2 rfl rfl ?_
        refine tw_icmp_ne (tgt := 40) X (In_of (by omega) (by omega)) (In_of (by omega) (by omega)) dX5_distances_33 (by decide) (fun c33 => ?_) (fun c33 => ?_)
        · skip
          have hfn := fi_next hf (Or.inr ⟨c33, rfl⟩)
          refine tw_sipush X dX5_distances_40 (by decide) ?_
          refine tw_iast X (N := (M 19 0).toNat) (f := far0) (ws' := [(qa4, arI cy ((M 19 0).toNat) (ups far0 ((i : Int)) (999)))] ++ [(qa11, arZ G ((M 19 0).toNat) (fun _ => 0))] ++ wS G cy q rr tt M g) 0 rfl (by omega) (by omega) dX5_distances_43 rfl ?_
          refine tw_iinc (q := 0) (x := (i : Int)) (y := (i : Int) + 1) (lv' := [(5, .int (enc ((i : Int) + 1))), (0, .ref (q 0)), (1, .int (enc (src))), (2, .int (enc (al))), (3, .ref (qa4)), (4, .ref (qa11))]) X dX5_distances_44 rfl rfl (by decide) rfl ?_
          refine tw_goto (tgt := 18) X dX5_distances_47 (by decide) ?_
          refine Tsub (lv' := [(5, .int (enc ((i : Int) + 1))), (0, .ref (q 0)), (1, .int (enc (src))), (2, .int (enc (al))), (3, .ref (qa4)), (4, .ref (qa11))]) [0, 1, 2, 3, 4, 5] rfl ?_
          refine Teq (ws' := [(qa4, arI cy ((M 19 0).toNat) ((ups far0 ((i : Int)) (999))))] ++ [(qa11, arZ G ((M 19 0).toNat) (fun _ => 0))] ++ wS G cy q rr tt M g) (lv' := [(5, .int (enc (((i + 1 : Nat) : Int)))), (0, .ref (q 0)), (1, .int (enc (src))), (2, .int (enc (al))), (3, .ref (qa4)), (4, .ref (qa11))]) (st' := []) (rfl) (lvc (i_succ i) (lvk (lvk (lvk (lvk (lvk (rfl))))))) rfl (ih18 (i + 1) ((ups far0 ((i : Int)) (999))) (by omega) (by omega) (hfn))
        · skip
          have hfn := fi_next hf (Or.inl ⟨c33, rfl⟩)
          refine tw_iconst X dX5_distances_36 ?_
          refine tw_goto (tgt := 43) X dX5_distances_37 (by decide) ?_
          refine tw_iast X (N := (M 19 0).toNat) (f := far0) (ws' := [(qa4, arI cy ((M 19 0).toNat) (ups far0 ((i : Int)) (0)))] ++ [(qa11, arZ G ((M 19 0).toNat) (fun _ => 0))] ++ wS G cy q rr tt M g) 0 rfl (by omega) (by omega) dX5_distances_43 rfl ?_
          refine tw_iinc (q := 0) (x := (i : Int)) (y := (i : Int) + 1) (lv' := [(5, .int (enc ((i : Int) + 1))), (0, .ref (q 0)), (1, .int (enc (src))), (2, .int (enc (al))), (3, .ref (qa4)), (4, .ref (qa11))]) X dX5_distances_44 rfl rfl (by decide) rfl ?_
          refine tw_goto (tgt := 18) X dX5_distances_47 (by decide) ?_
          refine Tsub (lv' := [(5, .int (enc ((i : Int) + 1))), (0, .ref (q 0)), (1, .int (enc (src))), (2, .int (enc (al))), (3, .ref (qa4)), (4, .ref (qa11))]) [0, 1, 2, 3, 4, 5] rfl ?_
          refine Teq (ws' := [(qa4, arI cy ((M 19 0).toNat) ((ups far0 ((i : Int)) (0))))] ++ [(qa11, arZ G ((M 19 0).toNat) (fun _ => 0))] ++ wS G cy q rr tt M g) (lv' := [(5, .int (enc (((i + 1 : Nat) : Int)))), (0, .ref (q 0)), (1, .int (enc (src))), (2, .int (enc (al))), (3, .ref (qa4)), (4, .ref (qa11))]) (st' := []) (rfl) (lvc (i_succ i) (lvk (lvk (lvk (lvk (lvk (rfl))))))) rfl (ih18 (i + 1) ((ups far0 ((i : Int)) (0))) (by omega) (by omega) (hfn))
  refine Tsub (lv' := [(5, .int (enc (0))), (0, .ref (q 0)), (1, .int (enc (src))), (2, .int (enc (al))), (3, .ref (qa4)), (4, .ref (qa11))]) [0, 3, 4, 5, 2, 1] rfl ?_
  refine Teq (ws' := [(qa4, arI cy ((M 19 0).toNat) (fun _ => 0))] ++ [(qa11, arZ G ((M 19 0).toNat) (fun _ => 0))] ++ wS G cy q rr tt M g) (lv' := [(5, .int (enc (((0 : Nat) : Int)))), (0, .ref (q 0)), (1, .int (enc (src))), (2, .int (enc (al))), (3, .ref (qa4)), (4, .ref (qa11))]) (st' := []) (rfl) (rfl) rfl (L18 (M 19 0 + 1).toNat 0 (fun _ => 0) (by omega) (by omega) (fun c c0 c1 => absurd c1 (by omega)))
