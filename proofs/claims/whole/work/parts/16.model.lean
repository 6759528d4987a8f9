/-! THE MODEL: its row 'now' is pack M; its distances; its hour -/
def wP (cy : ClassId) (q : Nat → Nat) (M : MT) (th : Int) (kept far : Int → Int) : va_W := wM cy q M (pack M) th kept far
def dnM (M : MT) (t : Int) : Int := if M 15 t < 0 then -1 else M 13 t + M 15 t
theorem up_o {M : MT} {k k' : Nat} {i v j : Int} (h : j ≠ i) : up M k i v k' j = M k' j := by rw [up_eq, if_neg (fun q => h q.2)]
theorem pack_h (M : MT) : pack M 0 = M 20 0 := rfl
theorem pack_congr {M N : MT} {j : Int} (h0 : j = 0 → M 20 0 = N 20 0) (h1 : j < 61 → (j - 1) % 3 = 0 → M 6 ((j - 1) / 3) = N 6 ((j - 1) / 3)) (h2 : j < 61 → (j - 1) % 3 = 1 → M 4 ((j - 1) / 3) = N 4 ((j - 1) / 3)) (h3 : j < 61 → (j - 1) % 3 = 2 → M 5 ((j - 1) / 3) = N 5 ((j - 1) / 3)) (h4 : 61 ≤ j → (j - 61) % 6 = 0 → M 7 ((j - 61) / 6) = N 7 ((j - 61) / 6)) (h5 : 61 ≤ j → (j - 61) % 6 = 1 → M 8 ((j - 61) / 6) = N 8 ((j - 61) / 6)) (h6 : 61 ≤ j → (j - 61) % 6 = 2 → M 10 ((j - 61) / 6) = N 10 ((j - 61) / 6)) (h7 : 61 ≤ j → (j - 61) % 6 = 3 → M 12 ((j - 61) / 6) = N 12 ((j - 61) / 6)) (h8 : 61 ≤ j → (j - 61) % 6 = 4 → dnM M ((j - 61) / 6) = dnM N ((j - 61) / 6)) (h9 : 61 ≤ j → (j - 61) % 6 = 5 → M 9 ((j - 61) / 6) = N 9 ((j - 61) / 6)) : pack M j = pack N j := by
  unfold pack
  by_cases a : j = 0
  · rw [if_pos a, if_pos a]; exact h0 a
  · rw [if_neg a, if_neg a]
    by_cases b : j < 61
    · rw [if_pos b, if_pos b]
      by_cases c : (j - 1) % 3 = 0
      · rw [if_pos c, if_pos c]; exact h1 b c
      · rw [if_neg c, if_neg c]
        by_cases d : (j - 1) % 3 = 1
        · rw [if_pos d, if_pos d]; exact h2 b d
        · rw [if_neg d, if_neg d]; exact h3 b (by omega)
    · rw [if_neg b, if_neg b]
      have b' : 61 ≤ j := by omega
      by_cases c0 : (j - 61) % 6 = 0
      · rw [if_pos c0, if_pos c0]; exact h4 b' c0
      · rw [if_neg c0, if_neg c0]
        by_cases c1 : (j - 61) % 6 = 1
        · rw [if_pos c1, if_pos c1]; exact h5 b' c1
        · rw [if_neg c1, if_neg c1]
          by_cases c2 : (j - 61) % 6 = 2
          · rw [if_pos c2, if_pos c2]; exact h6 b' c2
          · rw [if_neg c2, if_neg c2]
            by_cases c3 : (j - 61) % 6 = 3
            · rw [if_pos c3, if_pos c3]; exact h7 b' c3
            · rw [if_neg c3, if_neg c3]
              by_cases c4 : (j - 61) % 6 = 4
              · rw [if_pos c4, if_pos c4]; exact h8 b' c4
              · rw [if_neg c4, if_neg c4]; exact h9 b' (by omega)
theorem pack_sh (M : MT) (v : Int) : ups (pack M) 0 v = pack (upc M 20 v) := by
  funext j
  unfold ups
  by_cases e : j = 0
  · rw [if_pos e, e]; rfl
  · rw [if_neg e]
    exact pack_congr (fun z => absurd z e) (fun _ _ => rfl) (fun _ _ => rfl) (fun _ _ => rfl) (fun _ _ => rfl) (fun _ _ => rfl) (fun _ _ => rfl) (fun _ _ => rfl) (fun _ _ => rfl) (fun _ _ => rfl)

theorem pack_r0 (M : MT) {r : Int} (h : 0 ≤ r ∧ r < 20) : pack M (1 + 3 * r + 0) = M 6 r := by
  unfold pack
  rw [if_neg (by omega), if_pos (by omega), if_pos (by omega), show (1 + 3 * r + 0 - 1) / 3 = r by omega]
theorem pack_sr0 (M : MT) {r : Int} (h : 0 ≤ r ∧ r < 20) (v : Int) : ups (pack M) (1 + 3 * r + 0) v = pack (up M 6 r v) := by
  funext j
  unfold ups
  by_cases e : j = 1 + 3 * r + 0
  · rw [if_pos e, e, pack_r0 _ h, up_same]
  · rw [if_neg e]
    exact pack_congr (fun _ => rfl) (fun _ _ => by rw [up_eq, if_neg (by omega)]) (fun _ _ => rfl) (fun _ _ => rfl) (fun _ _ => rfl) (fun _ _ => rfl) (fun _ _ => rfl) (fun _ _ => rfl) (fun _ _ => rfl) (fun _ _ => rfl)
theorem pack_r1 (M : MT) {r : Int} (h : 0 ≤ r ∧ r < 20) : pack M (1 + 3 * r + 1) = M 4 r := by
  unfold pack
  rw [if_neg (by omega), if_pos (by omega), if_neg (by omega), if_pos (by omega), show (1 + 3 * r + 1 - 1) / 3 = r by omega]
theorem pack_sr1 (M : MT) {r : Int} (h : 0 ≤ r ∧ r < 20) (v : Int) : ups (pack M) (1 + 3 * r + 1) v = pack (up M 4 r v) := by
  funext j
  unfold ups
  by_cases e : j = 1 + 3 * r + 1
  · rw [if_pos e, e, pack_r1 _ h, up_same]
  · rw [if_neg e]
    exact pack_congr (fun _ => rfl) (fun _ _ => rfl) (fun _ _ => by rw [up_eq, if_neg (by omega)]) (fun _ _ => rfl) (fun _ _ => rfl) (fun _ _ => rfl) (fun _ _ => rfl) (fun _ _ => rfl) (fun _ _ => rfl) (fun _ _ => rfl)
theorem pack_r2 (M : MT) {r : Int} (h : 0 ≤ r ∧ r < 20) : pack M (1 + 3 * r + 2) = M 5 r := by
  unfold pack
  rw [if_neg (by omega), if_pos (by omega), if_neg (by omega), if_neg (by omega), show (1 + 3 * r + 2 - 1) / 3 = r by omega]
theorem pack_sr2 (M : MT) {r : Int} (h : 0 ≤ r ∧ r < 20) (v : Int) : ups (pack M) (1 + 3 * r + 2) v = pack (up M 5 r v) := by
  funext j
  unfold ups
  by_cases e : j = 1 + 3 * r + 2
  · rw [if_pos e, e, pack_r2 _ h, up_same]
  · rw [if_neg e]
    exact pack_congr (fun _ => rfl) (fun _ _ => rfl) (fun _ _ => rfl) (fun _ _ => by rw [up_eq, if_neg (by omega)]) (fun _ _ => rfl) (fun _ _ => rfl) (fun _ _ => rfl) (fun _ _ => rfl) (fun _ _ => rfl) (fun _ _ => rfl)
theorem pack_t0 (M : MT) {t : Int} (h : 0 ≤ t ∧ t < 12) : pack M (61 + 6 * t + 0) = M 7 t := by
  unfold pack
  rw [if_neg (by omega), if_neg (by omega), if_pos (by omega), show (61 + 6 * t + 0 - 61) / 6 = t by omega]
theorem pack_st0 (M : MT) {t : Int} (h : 0 ≤ t ∧ t < 12) (v : Int) : ups (pack M) (61 + 6 * t + 0) v = pack (up M 7 t v) := by
  funext j
  unfold ups
  by_cases e : j = 61 + 6 * t + 0
  · rw [if_pos e, e, pack_t0 _ h, up_same]
  · rw [if_neg e]
    exact pack_congr (fun _ => rfl) (fun _ _ => rfl) (fun _ _ => rfl) (fun _ _ => rfl) (fun _ _ => by rw [up_eq, if_neg (by omega)]) (fun _ _ => rfl) (fun _ _ => rfl) (fun _ _ => rfl) (fun _ _ => rfl) (fun _ _ => rfl)
theorem pack_t1 (M : MT) {t : Int} (h : 0 ≤ t ∧ t < 12) : pack M (61 + 6 * t + 1) = M 8 t := by
  unfold pack
  rw [if_neg (by omega), if_neg (by omega), if_neg (by omega), if_pos (by omega), show (61 + 6 * t + 1 - 61) / 6 = t by omega]
theorem pack_st1 (M : MT) {t : Int} (h : 0 ≤ t ∧ t < 12) (v : Int) : ups (pack M) (61 + 6 * t + 1) v = pack (up M 8 t v) := by
  funext j
  unfold ups
  by_cases e : j = 61 + 6 * t + 1
  · rw [if_pos e, e, pack_t1 _ h, up_same]
  · rw [if_neg e]
    exact pack_congr (fun _ => rfl) (fun _ _ => rfl) (fun _ _ => rfl) (fun _ _ => rfl) (fun _ _ => rfl) (fun _ _ => by rw [up_eq, if_neg (by omega)]) (fun _ _ => rfl) (fun _ _ => rfl) (fun _ _ => rfl) (fun _ _ => rfl)
theorem pack_t2 (M : MT) {t : Int} (h : 0 ≤ t ∧ t < 12) : pack M (61 + 6 * t + 2) = M 10 t := by
  unfold pack
  rw [if_neg (by omega), if_neg (by omega), if_neg (by omega), if_neg (by omega), if_pos (by omega), show (61 + 6 * t + 2 - 61) / 6 = t by omega]
theorem pack_st2 (M : MT) {t : Int} (h : 0 ≤ t ∧ t < 12) (v : Int) : ups (pack M) (61 + 6 * t + 2) v = pack (up M 10 t v) := by
  funext j
  unfold ups
  by_cases e : j = 61 + 6 * t + 2
  · rw [if_pos e, e, pack_t2 _ h, up_same]
  · rw [if_neg e]
    exact pack_congr (fun _ => rfl) (fun _ _ => rfl) (fun _ _ => rfl) (fun _ _ => rfl) (fun _ _ => rfl) (fun _ _ => rfl) (fun _ _ => by rw [up_eq, if_neg (by omega)]) (fun _ _ => rfl) (fun _ _ => rfl) (fun _ _ => rfl)
theorem pack_t3 (M : MT) {t : Int} (h : 0 ≤ t ∧ t < 12) : pack M (61 + 6 * t + 3) = M 12 t := by
  unfold pack
  rw [if_neg (by omega), if_neg (by omega), if_neg (by omega), if_neg (by omega), if_neg (by omega), if_pos (by omega), show (61 + 6 * t + 3 - 61) / 6 = t by omega]
theorem pack_st3 (M : MT) {t : Int} (h : 0 ≤ t ∧ t < 12) (v : Int) : ups (pack M) (61 + 6 * t + 3) v = pack (up M 12 t v) := by
  funext j
  unfold ups
  by_cases e : j = 61 + 6 * t + 3
  · rw [if_pos e, e, pack_t3 _ h, up_same]
  · rw [if_neg e]
    exact pack_congr (fun _ => rfl) (fun _ _ => rfl) (fun _ _ => rfl) (fun _ _ => rfl) (fun _ _ => rfl) (fun _ _ => rfl) (fun _ _ => rfl) (fun _ _ => by rw [up_eq, if_neg (by omega)]) (fun _ _ => rfl) (fun _ _ => rfl)
theorem pack_t5 (M : MT) {t : Int} (h : 0 ≤ t ∧ t < 12) : pack M (61 + 6 * t + 5) = M 9 t := by
  unfold pack
  rw [if_neg (by omega), if_neg (by omega), if_neg (by omega), if_neg (by omega), if_neg (by omega), if_neg (by omega), if_neg (by omega), show (61 + 6 * t + 5 - 61) / 6 = t by omega]
theorem pack_st5 (M : MT) {t : Int} (h : 0 ≤ t ∧ t < 12) (v : Int) : ups (pack M) (61 + 6 * t + 5) v = pack (up M 9 t v) := by
  funext j
  unfold ups
  by_cases e : j = 61 + 6 * t + 5
  · rw [if_pos e, e, pack_t5 _ h, up_same]
  · rw [if_neg e]
    exact pack_congr (fun _ => rfl) (fun _ _ => rfl) (fun _ _ => rfl) (fun _ _ => rfl) (fun _ _ => rfl) (fun _ _ => rfl) (fun _ _ => rfl) (fun _ _ => rfl) (fun _ _ => rfl) (fun _ _ => by rw [up_eq, if_neg (by omega)])
theorem pack_t4 (M : MT) {t : Int} (h : 0 ≤ t ∧ t < 12) : pack M (61 + 6 * t + 4) = dnM M t := by
  unfold pack dnM
  rw [if_neg (by omega), if_neg (by omega), if_neg (by omega), if_neg (by omega), if_neg (by omega), if_neg (by omega), if_pos (by omega), show (61 + 6 * t + 4 - 61) / 6 = t by omega]
theorem pack_st4 (M : MT) {t : Int} (h : 0 ≤ t ∧ t < 12) {v : Int} (hv : 0 ≤ v - M 13 t) : ups (pack M) (61 + 6 * t + 4) v = pack (up M 15 t (v - M 13 t)) := by
  funext j
  unfold ups
  by_cases e : j = 61 + 6 * t + 4
  · rw [if_pos e, e, pack_t4 _ h]
    unfold dnM
    rw [up_same, if_neg (by omega), up_eq, if_neg (by omega)]
    omega
  · rw [if_neg e]
    exact pack_congr (fun _ => rfl) (fun _ _ => rfl) (fun _ _ => rfl) (fun _ _ => rfl) (fun _ _ => rfl) (fun _ _ => rfl) (fun _ _ => rfl) (fun _ _ => rfl) (fun _ _ => by unfold dnM; rw [up_o (show (j - 61) / 6 ≠ t by omega), up_o (show (j - 61) / 6 ≠ t by omega)]) (fun _ _ => rfl)
theorem pack_st4n (M : MT) {t : Int} (h : 0 ≤ t ∧ t < 12) : ups (pack M) (61 + 6 * t + 4) (-1) = pack (up M 15 t (-1)) := by
  funext j
  unfold ups
  by_cases e : j = 61 + 6 * t + 4
  · rw [if_pos e, e, pack_t4 _ h]
    unfold dnM
    rw [up_same, if_pos (by omega)]
  · rw [if_neg e]
    exact pack_congr (fun _ => rfl) (fun _ _ => rfl) (fun _ _ => rfl) (fun _ _ => rfl) (fun _ _ => rfl) (fun _ _ => rfl) (fun _ _ => rfl) (fun _ _ => rfl) (fun _ _ => by unfold dnM; rw [up_o (show (j - 61) / 6 ≠ t by omega), up_o (show (j - 61) / 6 ≠ t by omega)]) (fun _ _ => rfl)
theorem dn_no {M : MT} {t : Int} (h13 : 0 ≤ M 13 t) : dnM M t = -1 ↔ M 15 t < 0 := by
  unfold dnM
  split <;> omega
def endG (M : MT) (r c : Int) : Int := if M 0 r = c then M 1 r else M 0 r
theorem endG_F {M : MT} {r c : Int} (h : M 0 r = c ∨ M 1 r = c) : endG M r c = endF M r c := by
  unfold endG endF
  by_cases e : M 0 r = c
  · rw [if_pos e, if_pos e]
  · rw [if_neg e, if_neg e, if_pos (by omega)]
theorem endF_neg {M : MT} {r c : Int} (h0 : M 0 r ≠ c) (h1 : M 1 r ≠ c) : endF M r c = -1 := by
  unfold endF
  rw [if_neg h0, if_neg h1]
noncomputable def hD (M : MT) (o : Bool) (a b : Int) : Int := if dst M o a b < 1000000 then dst M o a b else 9999
noncomputable def dO (M : MT) (o : Bool) (a b : Int) : Int := if dst M o a b < 1000000 then dst M o a b else -1
set_option maxRecDepth 100000 in
set_option maxHeartbeats 4000000 in
theorem m_X5_ro {G : va_G} {cy : ClassId} {q : Nat → Nat} (M : MT) (w : Int → Int) (th : Int) (kept far : Int → Int) (r x : Int) (hr : 0 ≤ r ∧ r < 20) (hx : 0 ≤ x ∧ x < 3) : Ct G cy yX5_ro cX5_ro 3 (some .int) ({ frames := 0, cells := 0, slots := 0, locals := 0 } : Room) 0 0 [.ref (q 0), .int (enc (r)), .int (enc (x))] (wM cy q M w th kept far) (fun v w1 => v = some (.int (enc (w (1 + 3 * r + x)))) ∧ w1 = wM cy q M w th kept far) := by
  refine Ct.ofI (by decide) (Nat.le_of_ble_eq_true rfl) rfl rfl (fun _ _ _ => rfl) ?_
  intro c X ret
  refine Tlv (lv' := [(0, .ref (q 0)), (1, .int (enc (r))), (2, .int (enc (x)))]) rfl ?_
  refine tw_aload_n X dX5_ro_0 0 rfl rfl ?_
  refine gf_X5_31 X (v := .ref (q 8)) 0 rfl rfl dX5_ro_1 ?_
  refine tw_iconst X dX5_ro_4 ?_
  refine tw_iconst X dX5_ro_5 ?_
  refine tw_iload_n X dX5_ro_6 1 rfl rfl ?_
  refine tw_imul (z := 3 * r) X dX5_ro_7 rfl ?_
  refine tw_iadd (z := 1 + (3 * r)) X dX5_ro_8 rfl ?_
  refine tw_iload_n X dX5_ro_9 2 rfl rfl ?_
  refine tw_iadd (z := (1 + (3 * r)) + x) X dX5_ro_10 rfl ?_
  refine tw_iald X (N := 133) (f := w) 8 rfl (by decide) (by omega) dX5_ro_11 ?_
  refine Tst (st' := [.int (enc (w ((1 + (3 * r)) + x)))]) rfl ?_
  exact ret _ _ _ _ dX5_ro_12 ⟨rfl, rfl⟩
set_option maxRecDepth 100000 in
set_option maxHeartbeats 4000000 in
theorem m_X5_lay {G : va_G} {cy : ClassId} {q : Nat → Nat} (M : MT) (w : Int → Int) (th : Int) (kept far : Int → Int) (r x v9 : Int) (hr : 0 ≤ r ∧ r < 20) (hx : 0 ≤ x ∧ x < 3) : Ct G cy yX5_lay cX5_lay 4 none ({ frames := 0, cells := 0, slots := 0, locals := 0 } : Room) 0 0 [.ref (q 0), .int (enc (r)), .int (enc (x)), .int (enc (v9))] (wM cy q M w th kept far) (fun v w1 => v = none ∧ w1 = wM cy q M (ups w (1 + 3 * r + x) v9) th kept far) := by
  refine Ct.ofV (by decide) (Nat.le_of_ble_eq_true rfl) rfl rfl ?_
  intro c X ret
  refine Tlv (lv' := [(0, .ref (q 0)), (1, .int (enc (r))), (2, .int (enc (x))), (3, .int (enc (v9)))]) rfl ?_
  refine tw_aload_n X dX5_lay_0 0 rfl rfl ?_
  refine gf_X5_31 X (v := .ref (q 8)) 0 rfl rfl dX5_lay_1 ?_
  refine tw_iconst X dX5_lay_4 ?_
  refine tw_iconst X dX5_lay_5 ?_
  refine tw_iload_n X dX5_lay_6 1 rfl rfl ?_
  refine tw_imul (z := 3 * r) X dX5_lay_7 rfl ?_
  refine tw_iadd (z := 1 + (3 * r)) X dX5_lay_8 rfl ?_
  refine tw_iload_n X dX5_lay_9 2 rfl rfl ?_
  refine tw_iadd (z := (1 + (3 * r)) + x) X dX5_lay_10 rfl ?_
  refine tw_iload_n X dX5_lay_11 3 rfl rfl ?_
  refine tw_iast X (N := 133) (f := w) (ws' := wM cy q M (ups w ((1 + (3 * r)) + x) (v9)) th kept far) 8 rfl (by decide) (by omega) dX5_lay_12 rfl ?_
  exact ret _ _ _ dX5_lay_13 ⟨rfl, rfl⟩
set_option maxRecDepth 100000 in
set_option maxHeartbeats 4000000 in
theorem m_X5_to {G : va_G} {cy : ClassId} {q : Nat → Nat} (M : MT) (w : Int → Int) (th : Int) (kept far : Int → Int) (r x : Int) (hr : 0 ≤ r ∧ r < 12) (hx : 0 ≤ x ∧ x < 6) : Ct G cy yX5_to cX5_to 3 (some .int) ({ frames := 0, cells := 0, slots := 0, locals := 0 } : Room) 0 0 [.ref (q 0), .int (enc (r)), .int (enc (x))] (wM cy q M w th kept far) (fun v w1 => v = some (.int (enc (w (61 + 6 * r + x)))) ∧ w1 = wM cy q M w th kept far) := by
  refine Ct.ofI (by decide) (Nat.le_of_ble_eq_true rfl) rfl rfl (fun _ _ _ => rfl) ?_
  intro c X ret
  refine Tlv (lv' := [(0, .ref (q 0)), (1, .int (enc (r))), (2, .int (enc (x)))]) rfl ?_
  refine tw_aload_n X dX5_to_0 0 rfl rfl ?_
  refine gf_X5_31 X (v := .ref (q 8)) 0 rfl rfl dX5_to_1 ?_
  refine tw_bipush X dX5_to_4 (by decide) ?_
  refine tw_bipush X dX5_to_6 (by decide) ?_
  refine tw_iload_n X dX5_to_8 1 rfl rfl ?_
  refine tw_imul (z := 6 * r) X dX5_to_9 rfl ?_
  refine tw_iadd (z := 61 + (6 * r)) X dX5_to_10 rfl ?_
  refine tw_iload_n X dX5_to_11 2 rfl rfl ?_
  refine tw_iadd (z := (61 + (6 * r)) + x) X dX5_to_12 rfl ?_
  refine tw_iald X (N := 133) (f := w) 8 rfl (by decide) (by omega) dX5_to_13 ?_
  refine Tst (st' := [.int (enc (w ((61 + (6 * r)) + x)))]) rfl ?_
  exact ret _ _ _ _ dX5_to_14 ⟨rfl, rfl⟩
set_option maxRecDepth 100000 in
set_option maxHeartbeats 4000000 in
theorem m_X5_let {G : va_G} {cy : ClassId} {q : Nat → Nat} (M : MT) (w : Int → Int) (th : Int) (kept far : Int → Int) (r x v9 : Int) (hr : 0 ≤ r ∧ r < 12) (hx : 0 ≤ x ∧ x < 6) : Ct G cy yX5_let cX5_let 4 none ({ frames := 0, cells := 0, slots := 0, locals := 0 } : Room) 0 0 [.ref (q 0), .int (enc (r)), .int (enc (x)), .int (enc (v9))] (wM cy q M w th kept far) (fun v w1 => v = none ∧ w1 = wM cy q M (ups w (61 + 6 * r + x) v9) th kept far) := by
  refine Ct.ofV (by decide) (Nat.le_of_ble_eq_true rfl) rfl rfl ?_
  intro c X ret
  refine Tlv (lv' := [(0, .ref (q 0)), (1, .int (enc (r))), (2, .int (enc (x))), (3, .int (enc (v9)))]) rfl ?_
  refine tw_aload_n X dX5_let_0 0 rfl rfl ?_
  refine gf_X5_31 X (v := .ref (q 8)) 0 rfl rfl dX5_let_1 ?_
  refine tw_bipush X dX5_let_4 (by decide) ?_
  refine tw_bipush X dX5_let_6 (by decide) ?_
  refine tw_iload_n X dX5_let_8 1 rfl rfl ?_
  refine tw_imul (z := 6 * r) X dX5_let_9 rfl ?_
  refine tw_iadd (z := 61 + (6 * r)) X dX5_let_10 rfl ?_
  refine tw_iload_n X dX5_let_11 2 rfl rfl ?_
  refine tw_iadd (z := (61 + (6 * r)) + x) X dX5_let_12 rfl ?_
  refine tw_iload_n X dX5_let_13 3 rfl rfl ?_
  refine tw_iast X (N := 133) (f := w) (ws' := wM cy q M (ups w ((61 + (6 * r)) + x) (v9)) th kept far) 8 rfl (by decide) (by omega) dX5_let_14 rfl ?_
  exact ret _ _ _ dX5_let_15 ⟨rfl, rfl⟩
theorem m_X5_ro_0 {G : va_G} {cy : ClassId} {q : Nat → Nat} (M : MT) (th : Int) (kept far : Int → Int) (r : Int) (hr : 0 ≤ r ∧ r < 20) : Ct G cy yX5_ro cX5_ro 3 (some .int) ({ frames := 0, cells := 0, slots := 0, locals := 0 } : Room) 0 0 [.ref (q 0), .int (enc r), .int (enc 0)] (wP cy q M th kept far) (fun v w1 => v = some (.int (enc (M 6 r))) ∧ w1 = wP cy q M th kept far) := (m_X5_ro (q := q) M (pack M) th kept far r 0 hr (by omega)).weak (fun v w1 h => ⟨by rw [h.1, pack_r0 M hr], h.2⟩)
theorem m_X5_lay_0 {G : va_G} {cy : ClassId} {q : Nat → Nat} (M : MT) (th : Int) (kept far : Int → Int) (r x : Int) (hr : 0 ≤ r ∧ r < 20) : Ct G cy yX5_lay cX5_lay 4 none ({ frames := 0, cells := 0, slots := 0, locals := 0 } : Room) 0 0 [.ref (q 0), .int (enc r), .int (enc 0), .int (enc x)] (wP cy q M th kept far) (fun v w1 => v = none ∧ w1 = wP cy q (up M 6 r x) th kept far) := (m_X5_lay (q := q) M (pack M) th kept far r 0 x hr (by omega)).weak (fun v w1 h => ⟨h.1, by rw [h.2, pack_sr0 M hr]; rfl⟩)
theorem m_X5_ro_1 {G : va_G} {cy : ClassId} {q : Nat → Nat} (M : MT) (th : Int) (kept far : Int → Int) (r : Int) (hr : 0 ≤ r ∧ r < 20) : Ct G cy yX5_ro cX5_ro 3 (some .int) ({ frames := 0, cells := 0, slots := 0, locals := 0 } : Room) 0 0 [.ref (q 0), .int (enc r), .int (enc 1)] (wP cy q M th kept far) (fun v w1 => v = some (.int (enc (M 4 r))) ∧ w1 = wP cy q M th kept far) := (m_X5_ro (q := q) M (pack M) th kept far r 1 hr (by omega)).weak (fun v w1 h => ⟨by rw [h.1, pack_r1 M hr], h.2⟩)
theorem m_X5_lay_1 {G : va_G} {cy : ClassId} {q : Nat → Nat} (M : MT) (th : Int) (kept far : Int → Int) (r x : Int) (hr : 0 ≤ r ∧ r < 20) : Ct G cy yX5_lay cX5_lay 4 none ({ frames := 0, cells := 0, slots := 0, locals := 0 } : Room) 0 0 [.ref (q 0), .int (enc r), .int (enc 1), .int (enc x)] (wP cy q M th kept far) (fun v w1 => v = none ∧ w1 = wP cy q (up M 4 r x) th kept far) := (m_X5_lay (q := q) M (pack M) th kept far r 1 x hr (by omega)).weak (fun v w1 h => ⟨h.1, by rw [h.2, pack_sr1 M hr]; rfl⟩)
theorem m_X5_ro_2 {G : va_G} {cy : ClassId} {q : Nat → Nat} (M : MT) (th : Int) (kept far : Int → Int) (r : Int) (hr : 0 ≤ r ∧ r < 20) : Ct G cy yX5_ro cX5_ro 3 (some .int) ({ frames := 0, cells := 0, slots := 0, locals := 0 } : Room) 0 0 [.ref (q 0), .int (enc r), .int (enc 2)] (wP cy q M th kept far) (fun v w1 => v = some (.int (enc (M 5 r))) ∧ w1 = wP cy q M th kept far) := (m_X5_ro (q := q) M (pack M) th kept far r 2 hr (by omega)).weak (fun v w1 h => ⟨by rw [h.1, pack_r2 M hr], h.2⟩)
theorem m_X5_lay_2 {G : va_G} {cy : ClassId} {q : Nat → Nat} (M : MT) (th : Int) (kept far : Int → Int) (r x : Int) (hr : 0 ≤ r ∧ r < 20) : Ct G cy yX5_lay cX5_lay 4 none ({ frames := 0, cells := 0, slots := 0, locals := 0 } : Room) 0 0 [.ref (q 0), .int (enc r), .int (enc 2), .int (enc x)] (wP cy q M th kept far) (fun v w1 => v = none ∧ w1 = wP cy q (up M 5 r x) th kept far) := (m_X5_lay (q := q) M (pack M) th kept far r 2 x hr (by omega)).weak (fun v w1 h => ⟨h.1, by rw [h.2, pack_sr2 M hr]; rfl⟩)
theorem m_X5_to_0 {G : va_G} {cy : ClassId} {q : Nat → Nat} (M : MT) (th : Int) (kept far : Int → Int) (t : Int) (hr : 0 ≤ t ∧ t < 12) : Ct G cy yX5_to cX5_to 3 (some .int) ({ frames := 0, cells := 0, slots := 0, locals := 0 } : Room) 0 0 [.ref (q 0), .int (enc t), .int (enc 0)] (wP cy q M th kept far) (fun v w1 => v = some (.int (enc (M 7 t))) ∧ w1 = wP cy q M th kept far) := (m_X5_to (q := q) M (pack M) th kept far t 0 hr (by omega)).weak (fun v w1 h => ⟨by rw [h.1, pack_t0 M hr], h.2⟩)
theorem m_X5_let_0 {G : va_G} {cy : ClassId} {q : Nat → Nat} (M : MT) (th : Int) (kept far : Int → Int) (t x : Int) (hr : 0 ≤ t ∧ t < 12) : Ct G cy yX5_let cX5_let 4 none ({ frames := 0, cells := 0, slots := 0, locals := 0 } : Room) 0 0 [.ref (q 0), .int (enc t), .int (enc 0), .int (enc x)] (wP cy q M th kept far) (fun v w1 => v = none ∧ w1 = wP cy q (up M 7 t x) th kept far) := (m_X5_let (q := q) M (pack M) th kept far t 0 x hr (by omega)).weak (fun v w1 h => ⟨h.1, by rw [h.2, pack_st0 M hr]; rfl⟩)
theorem m_X5_to_1 {G : va_G} {cy : ClassId} {q : Nat → Nat} (M : MT) (th : Int) (kept far : Int → Int) (t : Int) (hr : 0 ≤ t ∧ t < 12) : Ct G cy yX5_to cX5_to 3 (some .int) ({ frames := 0, cells := 0, slots := 0, locals := 0 } : Room) 0 0 [.ref (q 0), .int (enc t), .int (enc 1)] (wP cy q M th kept far) (fun v w1 => v = some (.int (enc (M 8 t))) ∧ w1 = wP cy q M th kept far) := (m_X5_to (q := q) M (pack M) th kept far t 1 hr (by omega)).weak (fun v w1 h => ⟨by rw [h.1, pack_t1 M hr], h.2⟩)
theorem m_X5_let_1 {G : va_G} {cy : ClassId} {q : Nat → Nat} (M : MT) (th : Int) (kept far : Int → Int) (t x : Int) (hr : 0 ≤ t ∧ t < 12) : Ct G cy yX5_let cX5_let 4 none ({ frames := 0, cells := 0, slots := 0, locals := 0 } : Room) 0 0 [.ref (q 0), .int (enc t), .int (enc 1), .int (enc x)] (wP cy q M th kept far) (fun v w1 => v = none ∧ w1 = wP cy q (up M 8 t x) th kept far) := (m_X5_let (q := q) M (pack M) th kept far t 1 x hr (by omega)).weak (fun v w1 h => ⟨h.1, by rw [h.2, pack_st1 M hr]; rfl⟩)
theorem m_X5_to_2 {G : va_G} {cy : ClassId} {q : Nat → Nat} (M : MT) (th : Int) (kept far : Int → Int) (t : Int) (hr : 0 ≤ t ∧ t < 12) : Ct G cy yX5_to cX5_to 3 (some .int) ({ frames := 0, cells := 0, slots := 0, locals := 0 } : Room) 0 0 [.ref (q 0), .int (enc t), .int (enc 2)] (wP cy q M th kept far) (fun v w1 => v = some (.int (enc (M 10 t))) ∧ w1 = wP cy q M th kept far) := (m_X5_to (q := q) M (pack M) th kept far t 2 hr (by omega)).weak (fun v w1 h => ⟨by rw [h.1, pack_t2 M hr], h.2⟩)
theorem m_X5_let_2 {G : va_G} {cy : ClassId} {q : Nat → Nat} (M : MT) (th : Int) (kept far : Int → Int) (t x : Int) (hr : 0 ≤ t ∧ t < 12) : Ct G cy yX5_let cX5_let 4 none ({ frames := 0, cells := 0, slots := 0, locals := 0 } : Room) 0 0 [.ref (q 0), .int (enc t), .int (enc 2), .int (enc x)] (wP cy q M th kept far) (fun v w1 => v = none ∧ w1 = wP cy q (up M 10 t x) th kept far) := (m_X5_let (q := q) M (pack M) th kept far t 2 x hr (by omega)).weak (fun v w1 h => ⟨h.1, by rw [h.2, pack_st2 M hr]; rfl⟩)
theorem m_X5_to_3 {G : va_G} {cy : ClassId} {q : Nat → Nat} (M : MT) (th : Int) (kept far : Int → Int) (t : Int) (hr : 0 ≤ t ∧ t < 12) : Ct G cy yX5_to cX5_to 3 (some .int) ({ frames := 0, cells := 0, slots := 0, locals := 0 } : Room) 0 0 [.ref (q 0), .int (enc t), .int (enc 3)] (wP cy q M th kept far) (fun v w1 => v = some (.int (enc (M 12 t))) ∧ w1 = wP cy q M th kept far) := (m_X5_to (q := q) M (pack M) th kept far t 3 hr (by omega)).weak (fun v w1 h => ⟨by rw [h.1, pack_t3 M hr], h.2⟩)
theorem m_X5_let_3 {G : va_G} {cy : ClassId} {q : Nat → Nat} (M : MT) (th : Int) (kept far : Int → Int) (t x : Int) (hr : 0 ≤ t ∧ t < 12) : Ct G cy yX5_let cX5_let 4 none ({ frames := 0, cells := 0, slots := 0, locals := 0 } : Room) 0 0 [.ref (q 0), .int (enc t), .int (enc 3), .int (enc x)] (wP cy q M th kept far) (fun v w1 => v = none ∧ w1 = wP cy q (up M 12 t x) th kept far) := (m_X5_let (q := q) M (pack M) th kept far t 3 x hr (by omega)).weak (fun v w1 h => ⟨h.1, by rw [h.2, pack_st3 M hr]; rfl⟩)
theorem m_X5_to_5 {G : va_G} {cy : ClassId} {q : Nat → Nat} (M : MT) (th : Int) (kept far : Int → Int) (t : Int) (hr : 0 ≤ t ∧ t < 12) : Ct G cy yX5_to cX5_to 3 (some .int) ({ frames := 0, cells := 0, slots := 0, locals := 0 } : Room) 0 0 [.ref (q 0), .int (enc t), .int (enc 5)] (wP cy q M th kept far) (fun v w1 => v = some (.int (enc (M 9 t))) ∧ w1 = wP cy q M th kept far) := (m_X5_to (q := q) M (pack M) th kept far t 5 hr (by omega)).weak (fun v w1 h => ⟨by rw [h.1, pack_t5 M hr], h.2⟩)
theorem m_X5_let_5 {G : va_G} {cy : ClassId} {q : Nat → Nat} (M : MT) (th : Int) (kept far : Int → Int) (t x : Int) (hr : 0 ≤ t ∧ t < 12) : Ct G cy yX5_let cX5_let 4 none ({ frames := 0, cells := 0, slots := 0, locals := 0 } : Room) 0 0 [.ref (q 0), .int (enc t), .int (enc 5), .int (enc x)] (wP cy q M th kept far) (fun v w1 => v = none ∧ w1 = wP cy q (up M 9 t x) th kept far) := (m_X5_let (q := q) M (pack M) th kept far t 5 x hr (by omega)).weak (fun v w1 h => ⟨h.1, by rw [h.2, pack_st5 M hr]; rfl⟩)
theorem m_X5_to_4 {G : va_G} {cy : ClassId} {q : Nat → Nat} (M : MT) (th : Int) (kept far : Int → Int) (t : Int) (hr : 0 ≤ t ∧ t < 12) : Ct G cy yX5_to cX5_to 3 (some .int) ({ frames := 0, cells := 0, slots := 0, locals := 0 } : Room) 0 0 [.ref (q 0), .int (enc t), .int (enc 4)] (wP cy q M th kept far) (fun v w1 => v = some (.int (enc (dnM M t))) ∧ w1 = wP cy q M th kept far) := (m_X5_to (q := q) M (pack M) th kept far t 4 hr (by omega)).weak (fun v w1 h => ⟨by rw [h.1, pack_t4 M hr], h.2⟩)
theorem m_X5_let_4 {G : va_G} {cy : ClassId} {q : Nat → Nat} (M : MT) (th : Int) (kept far : Int → Int) (t x : Int) (hr : 0 ≤ t ∧ t < 12) (hv : 0 ≤ x - M 13 t) : Ct G cy yX5_let cX5_let 4 none ({ frames := 0, cells := 0, slots := 0, locals := 0 } : Room) 0 0 [.ref (q 0), .int (enc t), .int (enc 4), .int (enc x)] (wP cy q M th kept far) (fun v w1 => v = none ∧ w1 = wP cy q (up M 15 t (x - M 13 t)) th kept far) := (m_X5_let (q := q) M (pack M) th kept far t 4 x hr (by omega)).weak (fun v w1 h => ⟨h.1, by rw [h.2, pack_st4 M hr hv]; rfl⟩)
theorem m_X5_let_4n {G : va_G} {cy : ClassId} {q : Nat → Nat} (M : MT) (th : Int) (kept far : Int → Int) (t : Int) (hr : 0 ≤ t ∧ t < 12) : Ct G cy yX5_let cX5_let 4 none ({ frames := 0, cells := 0, slots := 0, locals := 0 } : Room) 0 0 [.ref (q 0), .int (enc t), .int (enc 4), .int (enc (-1))] (wP cy q M th kept far) (fun v w1 => v = none ∧ w1 = wP cy q (up M 15 t (-1)) th kept far) := (m_X5_let (q := q) M (pack M) th kept far t 4 (-1) hr (by omega)).weak (fun v w1 h => ⟨h.1, by rw [h.2, pack_st4n M hr]; rfl⟩)
set_option maxRecDepth 100000 in
set_option maxHeartbeats 4000000 in
theorem m_X5_isOpen {G : va_G} {cy : ClassId} {q : Nat → Nat} (M : MT) (th : Int) (kept far : Int → Int) (r : Int) (hB : Bd M) (hr : 0 ≤ r ∧ r < 20) : Ct G cy yX5_isOpen cX5_isOpen 2 (some .boolean) ({ frames := 1, cells := 0, slots := 0, locals := 22 } : Room) 0 0 [.ref (q 0), .int (enc (r))] (wP cy q M th kept far) (fun v w1 => v = some (.int (enc (if M 6 r = 0 then 1 else 0))) ∧ w1 = wP cy q M th kept far) := by
  refine Ct.ofI (by decide) (Nat.le_of_ble_eq_true rfl) rfl rfl (fun x w1 h => by obtain ⟨h1, -⟩ := h; cases h1; exact nar_b) ?_
  intro c X ret
  refine Tlv (lv' := [(0, .ref (q 0)), (1, .int (enc (r)))]) rfl ?_
  refine tw_aload_n X dX5_isOpen_0 0 rfl rfl ?_
  refine tw_iload_n X dX5_isOpen_1 1 rfl rfl ?_
  refine tw_iconst X dX5_isOpen_2 ?_
  refine tw_callV X (As := [.int (enc (r)), .int (enc (0))]) (st := []) vw_X5_63 (m_X5_ro_0 (q := q) M th kept far (r) (by omega)) ([]) ([]) rfl rfl (q0 := 0) rfl rfl rfl ⟨rfl, rfl, Nat.le_of_ble_eq_true rfl, Nat.le_of_ble_eq_true rfl⟩ ⟨Nat.le_of_ble_eq_true rfl, Nat.le_of_ble_eq_true rfl⟩ (Nat.le_of_ble_eq_true rfl) dX5_isOpen_3 (fun v w1 hp => ?_)
  obtain ⟨rfl, rfl⟩ := hp
  refine Teq (ws' := wP cy q M th kept far) (lv' := [(0, .ref (q 0)), (1, .int (enc (r)))]) (st' := [.int (enc (M 6 r))]) rfl rfl rfl ?_
  have b1 := hB 6 r
  refine tw_if_ne (tgt := 13) X (In_of (by omega) (by omega)) dX5_isOpen_6 (by decide) (fun c6 => ?_) (fun c6 => ?_)
  · skip
    refine tw_iconst X dX5_isOpen_13 ?_
    exact ret _ _ _ _ dX5_isOpen_14 ⟨by first | rw [if_pos c6] | rw [if_neg c6], rfl⟩
  · skip
    refine tw_iconst X dX5_isOpen_9 ?_
    refine tw_goto (tgt := 14) X dX5_isOpen_10 (by decide) ?_
    exact ret _ _ _ _ dX5_isOpen_14 ⟨by first | rw [if_pos c6] | rw [if_neg c6], rfl⟩
set_option maxRecDepth 100000 in
set_option maxHeartbeats 4000000 in
theorem m_X5_longNow {G : va_G} {cy : ClassId} {q : Nat → Nat} (M : MT) (th : Int) (kept far : Int → Int) (r : Int) (hr : 0 ≤ r ∧ r < 20) : Ct G cy yX5_longNow cX5_longNow 2 (some .int) ({ frames := 1, cells := 0, slots := 0, locals := 22 } : Room) 0 0 [.ref (q 0), .int (enc (r))] (wP cy q M th kept far) (fun v w1 => v = some (.int (enc (len M r))) ∧ w1 = wP cy q M th kept far) := by
  refine Ct.ofI (by decide) (Nat.le_of_ble_eq_true rfl) rfl rfl (fun _ _ _ => rfl) ?_
  intro c X ret
  refine Tlv (lv' := [(0, .ref (q 0)), (1, .int (enc (r)))]) rfl ?_
  refine tw_aload_n X dX5_longNow_0 0 rfl rfl ?_
  refine gf_X5_16 X (v := .ref (q 3)) 0 rfl rfl dX5_longNow_1 ?_
  refine tw_iload_n X dX5_longNow_4 1 rfl rfl ?_
  refine tw_iald X (N := 20) (f := (M 2)) 3 rfl (by decide) (by omega) dX5_longNow_5 ?_
  refine Tst (st' := [.int (enc (M 2 r))]) rfl ?_
  refine tw_aload_n X dX5_longNow_6 0 rfl rfl ?_
  refine tw_iload_n X dX5_longNow_7 1 rfl rfl ?_
  refine tw_iconst X dX5_longNow_8 ?_
  refine tw_callV X (As := [.int (enc (r)), .int (enc (2))]) (st := [.int (enc (M 2 r))]) vw_X5_63 (m_X5_ro_2 (q := q) M th kept far (r) (by omega)) ([]) ([]) rfl rfl (q0 := 0) rfl rfl rfl ⟨rfl, rfl, Nat.le_of_ble_eq_true rfl, Nat.le_of_ble_eq_true rfl⟩ ⟨Nat.le_of_ble_eq_true rfl, Nat.le_of_ble_eq_true rfl⟩ (Nat.le_of_ble_eq_true rfl) dX5_longNow_9 (fun v w1 hp => ?_)
  obtain ⟨rfl, rfl⟩ := hp
  refine Teq (ws' := wP cy q M th kept far) (lv' := [(0, .ref (q 0)), (1, .int (enc (r)))]) (st' := [.int (enc (M 5 r)), .int (enc (M 2 r))]) rfl rfl rfl ?_
  refine tw_iadd (z := (M 2 r) + (M 5 r)) X dX5_longNow_12 rfl ?_
  exact ret _ _ _ _ dX5_longNow_13 ⟨rfl, rfl⟩
set_option maxRecDepth 100000 in
set_option maxHeartbeats 4000000 in
theorem m_X5_on {G : va_G} {cy : ClassId} {q : Nat → Nat} (M : MT) (th : Int) (kept far : Int → Int) (r : Int) (hB : Bd M) (h : 0 ≤ M 17 0 ∧ M 17 0 ≤ 12) (hr : -2000000 ≤ r ∧ r ≤ 2000000) : Ct G cy yX5_on cX5_on 4 (some .int) ({ frames := 1, cells := 0, slots := 0, locals := 22 } : Room) 0 0 [.ref (q 0), .int (enc (r))] (wP cy q M th kept far) (fun v w1 => v = some (.int (enc (onR M r (M 17 0).toNat))) ∧ w1 = wP cy q M th kept far) := by
  refine Ct.ofI (by decide) (Nat.le_of_ble_eq_true rfl) rfl rfl (fun _ _ _ => rfl) ?_
  intro c X ret
  refine Tlv (lv' := [(0, .ref (q 0)), (1, .int (enc (r)))]) rfl ?_
  refine tw_iconst X dX5_on_0 ?_
  refine tw_istore_n (lv' := [(2, .int (enc (0))), (0, .ref (q 0)), (1, .int (enc (r)))]) X dX5_on_1 rfl (by decide) rfl ?_
  refine tw_iconst X dX5_on_2 ?_
  refine tw_istore_n (lv' := [(3, .int (enc (0))), (2, .int (enc (0))), (0, .ref (q 0)), (1, .int (enc (r)))]) X dX5_on_3 rfl (by decide) rfl ?_
  have L4 : ∀ (fu i : Nat), (i : Int) ≤ M 17 0 → M 17 0 + 1 ≤ (i : Int) + fu → T G c ({ frames := 1, cells := 0, slots := 0, locals := 22 } : Room) 4 0 0 (wP cy q M th kept far) 4 [(0, .ref (q 0)), (1, .int (enc (r))), (2, .int (enc (onR M r i))), (3, .int (enc ((i : Int))))] [] := by
    intro fu
    induction fu with
    | zero =>
      intro i  hi0 hi1
      exact absurd hi1 (by omega)
    | succ fu ih4 =>
      intro i  hi0_4 hi1_4 
      refine tw_iload_n X dX5_on_4 3 rfl rfl ?_
      refine tw_aload_n X dX5_on_5 0 rfl rfl ?_
      refine gf_X5_54 X (v := .int (enc (M 17 0))) 0 rfl rfl dX5_on_6 ?_
      have b1 := hB 17 0
      refine tw_icmp_ge (tgt := 36) X (In_of (by omega) (by omega)) (In_of (by omega) (by omega)) dX5_on_9 (by decide) (fun c9 => ?_) (fun c9 => ?_)
      · skip
        refine tw_iload_n X dX5_on_36 2 rfl rfl ?_
        exact ret _ _ _ _ dX5_on_37 ⟨by rw [show (M 17 0).toNat = i by omega], rfl⟩
      · skip
        refine tw_iload_n X dX5_on_12 2 rfl rfl ?_
        refine tw_aload_n X dX5_on_13 0 rfl rfl ?_
        refine tw_iload_n X dX5_on_14 3 rfl rfl ?_
        refine tw_iconst X dX5_on_15 ?_
        refine tw_callV X (As := [.int (enc ((i : Int))), .int (enc (1))]) (st := [.int (enc (onR M r i))]) vw_X5_67 (m_X5_to_1 (q := q) M th kept far ((i : Int)) (by omega)) ([]) ([]) rfl rfl (q0 := 0) rfl rfl rfl ⟨rfl, rfl, Nat.le_of_ble_eq_true rfl, Nat.le_of_ble_eq_true rfl⟩ ⟨Nat.le_of_ble_eq_true rfl, Nat.le_of_ble_eq_true rfl⟩ (Nat.le_of_ble_eq_true rfl) dX5_on_16 (fun v w1 hp => ?_)
        obtain ⟨rfl, rfl⟩ := hp
        refine Teq (ws' := wP cy q M th kept far) (lv' := [(0, .ref (q 0)), (1, .int (enc (r))), (2, .int (enc (onR M r i))), (3, .int (enc ((i : Int))))]) (st' := [.int (enc (M 8 (i : Int))), .int (enc (onR M r i))]) rfl rfl rfl ?_
        have b2 := hB 8 (i : Int)
        refine tw_iload_n X dX5_on_19 1 rfl rfl ?_
        refine tw_icmp_ne (tgt := 27) X (In_of (by omega) (by omega)) (In_of (by omega) (by omega)) dX5_on_20 (by decide) (fun c20 => ?_) (fun c20 => ?_)
        · skip
          refine tw_iconst X dX5_on_27 ?_
          refine tw_iadd (z := (onR M r i) + 0) X dX5_on_28 rfl ?_
          refine tw_istore_n (lv' := [(2, .int (enc ((onR M r i) + 0))), (0, .ref (q 0)), (1, .int (enc (r))), (3, .int (enc ((i : Int))))]) X dX5_on_29 rfl (by decide) rfl ?_
          refine tw_iinc (q := 3) (x := (i : Int)) (y := (i : Int) + 1) (lv' := [(3, .int (enc ((i : Int) + 1))), (2, .int (enc ((onR M r i) + 0))), (0, .ref (q 0)), (1, .int (enc (r)))]) X dX5_on_30 rfl rfl (by decide) rfl ?_
          refine tw_goto (tgt := 4) X dX5_on_33 (by decide) ?_
          refine Tsub (lv' := [(0, .ref (q 0)), (1, .int (enc (r))), (2, .int (enc ((onR M r i) + 0))), (3, .int (enc ((i : Int) + 1)))]) [2, 3, 1, 0] rfl ?_
          refine Teq (ws' := wP cy q M th kept far) (lv' := [(0, .ref (q 0)), (1, .int (enc (r))), (2, .int (enc (onR M r (i + 1)))), (3, .int (enc (((i + 1 : Nat) : Int))))]) (st' := []) (rfl) (lvk (lvk (lvc (by rw [onR_s]; first | rw [if_pos c20] | (rw [if_neg c20])) (lvc (i_succ i) (rfl))))) rfl (ih4 (i + 1) (by omega) (by omega))
        · skip
          refine tw_iconst X dX5_on_23 ?_
          refine tw_goto (tgt := 28) X dX5_on_24 (by decide) ?_
          refine tw_iadd (z := (onR M r i) + 1) X dX5_on_28 rfl ?_
          refine tw_istore_n (lv' := [(2, .int (enc ((onR M r i) + 1))), (0, .ref (q 0)), (1, .int (enc (r))), (3, .int (enc ((i : Int))))]) X dX5_on_29 rfl (by decide) rfl ?_
          refine tw_iinc (q := 3) (x := (i : Int)) (y := (i : Int) + 1) (lv' := [(3, .int (enc ((i : Int) + 1))), (2, .int (enc ((onR M r i) + 1))), (0, .ref (q 0)), (1, .int (enc (r)))]) X dX5_on_30 rfl rfl (by decide) rfl ?_
          refine tw_goto (tgt := 4) X dX5_on_33 (by decide) ?_
          refine Tsub (lv' := [(0, .ref (q 0)), (1, .int (enc (r))), (2, .int (enc ((onR M r i) + 1))), (3, .int (enc ((i : Int) + 1)))]) [2, 3, 1, 0] rfl ?_
          refine Teq (ws' := wP cy q M th kept far) (lv' := [(0, .ref (q 0)), (1, .int (enc (r))), (2, .int (enc (onR M r (i + 1)))), (3, .int (enc (((i + 1 : Nat) : Int))))]) (st' := []) (rfl) (lvk (lvk (lvc (by rw [onR_s]; first | rw [if_pos c20] | (rw [if_neg c20])) (lvc (i_succ i) (rfl))))) rfl (ih4 (i + 1) (by omega) (by omega))
  refine Tsub (lv' := [(0, .ref (q 0)), (1, .int (enc (r))), (2, .int (enc (0))), (3, .int (enc (0)))]) [2, 3, 1, 0] rfl ?_
  refine Teq (ws' := wP cy q M th kept far) (lv' := [(0, .ref (q 0)), (1, .int (enc (r))), (2, .int (enc (onR M r 0))), (3, .int (enc (((0 : Nat) : Int))))]) (st' := []) (rfl) (rfl) rfl (L4 (M 17 0 + 1).toNat 0 (by omega) (by omega))
set_option maxRecDepth 100000 in
set_option maxHeartbeats 4000000 in
theorem m_X5_end {G : va_G} {cy : ClassId} {q : Nat → Nat} (M : MT) (th : Int) (kept far : Int → Int) (r c1 : Int) (hB : Bd M) (hr : 0 ≤ r ∧ r < 20) (hc : -10 ≤ c1 ∧ c1 ≤ 20) : Ct G cy yX5_end cX5_end 3 (some .int) ({ frames := 0, cells := 0, slots := 0, locals := 0 } : Room) 0 0 [.ref (q 0), .int (enc (r)), .int (enc (c1))] (wP cy q M th kept far) (fun v w1 => v = some (.int (enc (endG M r c1))) ∧ w1 = wP cy q M th kept far) := by
  refine Ct.ofI (by decide) (Nat.le_of_ble_eq_true rfl) rfl rfl (fun _ _ _ => rfl) ?_
  intro c X ret
  refine Tlv (lv' := [(0, .ref (q 0)), (1, .int (enc (r))), (2, .int (enc (c1)))]) rfl ?_
  refine tw_aload_n X dX5_end_0 0 rfl rfl ?_
  refine gf_X5_9 X (v := .ref (q 1)) 0 rfl rfl dX5_end_1 ?_
  refine tw_iload_n X dX5_end_4 1 rfl rfl ?_
  refine tw_iald X (N := 20) (f := (M 0)) 1 rfl (by decide) (by omega) dX5_end_5 ?_
  refine Tst (st' := [.int (enc (M 0 r))]) rfl ?_
  have b1 := hB 0 r
  refine tw_iload_n X dX5_end_6 2 rfl rfl ?_
  refine tw_icmp_ne (tgt := 19) X (In_of (by omega) (by omega)) (In_of (by omega) (by omega)) dX5_end_7 (by decide) (fun c7 => ?_) (fun c7 => ?_)
  · skip
    refine tw_aload_n X dX5_end_19 0 rfl rfl ?_
    refine gf_X5_9 X (v := .ref (q 1)) 0 rfl rfl dX5_end_20 ?_
    refine tw_iload_n X dX5_end_23 1 rfl rfl ?_
    refine tw_iald X (N := 20) (f := (M 0)) 1 rfl (by decide) (by omega) dX5_end_24 ?_
    refine Tst (st' := [.int (enc (M 0 r))]) rfl ?_
    have b2 := hB 0 r
    exact ret _ _ _ _ dX5_end_25 ⟨by unfold endG; first | rw [if_pos c7] | rw [if_neg c7], rfl⟩
  · skip
    refine tw_aload_n X dX5_end_10 0 rfl rfl ?_
    refine gf_X5_13 X (v := .ref (q 2)) 0 rfl rfl dX5_end_11 ?_
    refine tw_iload_n X dX5_end_14 1 rfl rfl ?_
    refine tw_iald X (N := 20) (f := (M 1)) 2 rfl (by decide) (by omega) dX5_end_15 ?_
    refine Tst (st' := [.int (enc (M 1 r))]) rfl ?_
    have b3 := hB 1 r
    refine tw_goto (tgt := 25) X dX5_end_16 (by decide) ?_
    exact ret _ _ _ _ dX5_end_25 ⟨by unfold endG; first | rw [if_pos c7] | rw [if_neg c7], rfl⟩
set_option maxRecDepth 100000 in
set_option maxHeartbeats 4000000 in
theorem m_X5_mix {G : va_G} {cy : ClassId} (a b : Int) (ha : 0 ≤ a ∧ a ≤ 3) (hb : 0 ≤ b ∧ b ≤ 3) : Ct G cy yX5_mix cX5_mix 2 (some .int) ({ frames := 0, cells := 0, slots := 0, locals := 0 } : Room) 0 0 [.int (enc (a)), .int (enc (b))] ([]) (fun v w1 => v = some (.int (enc (mixD a b))) ∧ w1 = []) := by
  refine Ct.ofI (by decide) (Nat.le_of_ble_eq_true rfl) rfl rfl (fun _ _ _ => rfl) ?_
  intro c X ret
  refine Tlv (lv' := [(0, .int (enc (a))), (1, .int (enc (b)))]) rfl ?_
  refine tw_iload_n X dX5_mix_0 0 rfl rfl ?_
  refine tw_if_eq (tgt := 9) X (In_of (by omega) (by omega)) dX5_mix_1 (by decide) (fun c1 => ?_) (fun c1 => ?_)
  · skip
    refine tw_iload_n X dX5_mix_9 1 rfl rfl ?_
    refine tw_goto (tgt := 27) X dX5_mix_10 (by decide) ?_
    exact ret _ _ _ _ dX5_mix_27 ⟨by unfold mixD; first | rw [if_pos (by omega)] | rw [if_neg (by omega), if_pos (by omega)] | rw [if_neg (by omega), if_neg (by omega)], rfl⟩
  · skip
    refine tw_iload_n X dX5_mix_4 0 rfl rfl ?_
    refine tw_iload_n X dX5_mix_5 1 rfl rfl ?_
    refine tw_icmp_ne (tgt := 13) X (In_of (by omega) (by omega)) (In_of (by omega) (by omega)) dX5_mix_6 (by decide) (fun c6 => ?_) (fun c6 => ?_)
    · skip
      refine tw_iload_n X dX5_mix_13 1 rfl rfl ?_
      refine tw_if_ne (tgt := 21) X (In_of (by omega) (by omega)) dX5_mix_14 (by decide) (fun c14 => ?_) (fun c14 => ?_)
      · skip
        refine tw_bipush X dX5_mix_21 (by decide) ?_
        refine tw_iload_n X dX5_mix_23 0 rfl rfl ?_
        refine tw_isub (z := 6 - a) X dX5_mix_24 rfl ?_
        refine tw_iload_n X dX5_mix_25 1 rfl rfl ?_
        refine tw_isub (z := (6 - a) - b) X dX5_mix_26 rfl ?_
        exact ret _ _ _ _ dX5_mix_27 ⟨by unfold mixD; first | rw [if_pos (by omega)] | rw [if_neg (by omega), if_pos (by omega)] | rw [if_neg (by omega), if_neg (by omega)], rfl⟩
      · skip
        refine tw_iload_n X dX5_mix_17 0 rfl rfl ?_
        refine tw_goto (tgt := 27) X dX5_mix_18 (by decide) ?_
        exact ret _ _ _ _ dX5_mix_27 ⟨by unfold mixD; first | rw [if_pos (by omega)] | rw [if_neg (by omega), if_pos (by omega)] | rw [if_neg (by omega), if_neg (by omega)], rfl⟩
    · skip
      refine tw_iload_n X dX5_mix_9 1 rfl rfl ?_
      refine tw_goto (tgt := 27) X dX5_mix_10 (by decide) ?_
      exact ret _ _ _ _ dX5_mix_27 ⟨by unfold mixD; first | rw [if_pos (by omega)] | rw [if_neg (by omega), if_pos (by omega)] | rw [if_neg (by omega), if_neg (by omega)], rfl⟩
set_option maxRecDepth 100000 in
set_option maxHeartbeats 4000000 in
theorem m_X5_isIn {G : va_G} {cy : ClassId} (a b d : Int) (ha : In a) (hb : In b) (hd : In d) : Ct G cy yX5_isIn cX5_isIn 3 (some .boolean) ({ frames := 0, cells := 0, slots := 0, locals := 0 } : Room) 0 0 [.int (enc (a)), .int (enc (b)), .int (enc (d))] ([]) (fun v w1 => v = some (.int (enc (if b ≤ a ∧ a ≤ d then 1 else 0))) ∧ w1 = []) := by
  refine Ct.ofI (by decide) (Nat.le_of_ble_eq_true rfl) rfl rfl (fun x w1 h => by obtain ⟨h1, -⟩ := h; cases h1; exact nar_b) ?_
  intro c X ret
  refine Tlv (lv' := [(0, .int (enc (a))), (1, .int (enc (b))), (2, .int (enc (d)))]) rfl ?_
  refine tw_iload_n X dX5_isIn_0 0 rfl rfl ?_
  refine tw_iload_n X dX5_isIn_1 1 rfl rfl ?_
  refine tw_icmp_lt (tgt := 14) X ha hb dX5_isIn_2 (by decide) (fun c2 => ?_) (fun c2 => ?_)
  · skip
    refine tw_iconst X dX5_isIn_14 ?_
    exact ret _ _ _ _ dX5_isIn_15 ⟨by first | rw [if_pos (by omega)] | rw [if_neg (by omega)], rfl⟩
  · skip
    refine tw_iload_n X dX5_isIn_5 0 rfl rfl ?_
    refine tw_iload_n X dX5_isIn_6 2 rfl rfl ?_
    refine tw_icmp_gt (tgt := 14) X ha hd dX5_isIn_7 (by decide) (fun c7 => ?_) (fun c7 => ?_)
    · skip
      refine tw_iconst X dX5_isIn_14 ?_
      exact ret _ _ _ _ dX5_isIn_15 ⟨by first | rw [if_pos (by omega)] | rw [if_neg (by omega)], rfl⟩
    · skip
      refine tw_iconst X dX5_isIn_10 ?_
      refine tw_goto (tgt := 15) X dX5_isIn_11 (by decide) ?_
      exact ret _ _ _ _ dX5_isIn_15 ⟨by first | rw [if_pos (by omega)] | rw [if_neg (by omega)], rfl⟩
/-! the model's distances: made shorter till none gets shorter -/
def sumF (f : Int → Int) : Nat → Int
  | 0 => 0
  | i + 1 => sumF f i + f i
theorem sumF_s (f : Int → Int) (i : Nat) : sumF f (i + 1) = sumF f i + f i := rfl
theorem sumF_ups (f : Int → Int) {c : Nat} (v : Int) : ∀ n : Nat, (n ≤ c → sumF (ups f c v) n = sumF f n) ∧ (c < n → sumF (ups f c v) n = sumF f n - f c + v)
  | 0 => ⟨fun _ => rfl, fun h => absurd h (Nat.not_lt_zero c)⟩
  | n + 1 => by
    have ih := sumF_ups f (c := c) v n
    refine ⟨fun h => ?_, fun h => ?_⟩
    · rw [sumF_s, sumF_s, ih.1 (by omega), ups_ne v (by omega)]
    · rw [sumF_s, sumF_s]
      by_cases e : c = n
      · subst e
        rw [ih.1 (Nat.le_refl _), ups_same]; omega
      · rw [ih.2 (by omega), ups_ne v (by omega)]; omega
theorem sumF_lo {f : Int → Int} : ∀ n : Nat, (∀ c : Int, 0 ≤ c → c < n → 0 ≤ f c) → 0 ≤ sumF f n
  | 0, _ => Int.le_refl _
  | n + 1, h => by
    have := sumF_lo (f := f) n (fun c c0 c1 => h c c0 (by omega))
    have := h n (by omega) (by omega)
    rw [sumF_s]; omega
theorem sumF_dec {f : Int → Int} {n a v : Int} (a0 : 0 ≤ a) (a1 : a < n) (hv : v < f a) : sumF (ups f a v) n.toNat < sumF f n.toNat := by
  have h := (sumF_ups f (c := a.toNat) v n.toNat).2 (by omega)
  rw [show ((a.toNat : Nat) : Int) = a by omega] at h
  omega
def BF (M : MT) (o : Bool) (from_ : Int) (f : Int → Int) : Prop := (∀ c : Int, 0 ≤ c → c < M 19 0 → 0 ≤ f c ∧ f c ≤ 9999 ∧ (f c < 9999 → ∃ k : Nat, wk M o k c from_ (f c))) ∧ f from_ = 0
/-- the roads below r make none shorter -/
def BS (M : MT) (o : Bool) (f : Int → Int) (r : Int) : Prop := ∀ r' : Int, usable M o r' → r' < r → f (M 0 r') ≤ len M r' + f (M 1 r') ∧ f (M 1 r') ≤ len M r' + f (M 0 r')
theorem BF.set {M : MT} {o : Bool} {g : Int} {f : Int → Int} (hW : WFR M) (h : BF M o g f) {r a b : Int} (hu : usable M o r) (hab : (a = M 0 r ∧ b = M 1 r) ∨ (a = M 1 r ∧ b = M 0 r)) (hl : len M r + f b < f a) : BF M o g (ups f a (len M r + f b)) := by
  have w := hW.2.2.2.2 r hu.1 hu.2.1
  have hl1 := hW.ln hu.1 hu.2.1
  have fa := h.1 a (by omega) (by omega)
  have fb := h.1 b (by omega) (by omega)
  have hag : a ≠ g := fun e => by rw [e, h.2] at hl; omega
  have ee : endF M r a = b := by
    rcases hab with ⟨rfl, rfl⟩ | ⟨rfl, rfl⟩
    · exact endF_0 M r
    · exact endF_1 hW hu.1 hu.2.1
  refine ⟨fun c c0 c1 => ?_, by rw [ups_ne _ (Ne.symm hag)]; exact h.2⟩
  by_cases e : c = a
  · subst e
    rw [ups_same]
    refine ⟨by omega, by omega, fun _ => ?_⟩
    obtain ⟨k, q⟩ := fb.2.2 (by omega)
    exact ⟨k + 1, r, hu, by rw [ee]; omega, by rw [ee, show len M r + f b - len M r = f b by omega]; exact q⟩
  · rw [ups_ne _ e]; exact h.1 c c0 c1
theorem BF.done {M : MT} {o : Bool} {g : Int} {f : Int → Int} (hW : WFR M) (h : BF M o g f) (hs : BS M o f (M 16 0)) {c : Int} (c0 : 0 ≤ c) (c1 : c < M 19 0) : f c = hD M o c g := by
  have key : ∀ (k : Nat) (c L : Int), 0 ≤ c → c < M 19 0 → wk M o k c g L → f c ≤ L := by
    intro k
    induction k with
    | zero => intro c L _ _ q; rw [q.1, h.2, q.2]; exact Int.le_refl _
    | succ k ih =>
      intro c L c0 c1 q
      obtain ⟨r, hu, he, q⟩ := q
      have e := endF_rng hW hu.1 hu.2.1 he
      have i1 := ih _ _ he e.2.2.1 q
      have s1 := hs r hu hu.2.1
      rcases endF_ok hW hu.1 hu.2.1 he with ⟨e1, e2⟩ | ⟨e1, e2⟩
      · rw [e2] at i1; rw [e1]; omega
      · rw [e2] at i1; rw [e1]; omega
  obtain ⟨d0, d1, d2, d3⟩ := dst_ok (o := o) hW c g
  have fc := h.1 c c0 c1
  unfold hD
  by_cases hd : dst M o c g < 1000000
  · rw [if_pos hd]
    have h108 := dst_108 hW c0 c1 hd
    obtain ⟨k, q⟩ := d3 hd
    have a1 := key k c _ c0 c1 q
    obtain ⟨k2, q2⟩ := fc.2.2 (by omega)
    have a2 := d2 k2 _ q2
    omega
  · rw [if_neg hd]
    rcases ilt (f c) 9999 with z | z
    · obtain ⟨k2, q2⟩ := fc.2.2 z
      have a2 := d2 k2 _ q2
      omega
    · omega
set_option maxRecDepth 100000 in
set_option maxHeartbeats 4000000 in
theorem m_X5_measure {G : va_G} {cy : ClassId} {q : Nat → Nat} (M : MT) (th : Int) (kept far : Int → Int) (g : Int) (ob : Bool) (hW : WFR M) (hB : Bd M) (hg : 0 ≤ g ∧ g < M 19 0) : Ct G cy yX5_measure cX5_measure 7 none ({ frames := 2, cells := 0, slots := 0, locals := 43 } : Room) 0 0 [.ref (q 0), .int (enc (g)), .int (enc (if ob = false then 1 else 0))] (wP cy q M th kept far) (fun v w1 => v = none ∧ ∃ f', (∀ c : Int, 0 ≤ c → c < M 19 0 → f' c = hD M ob c g) ∧ w1 = wP cy q M th kept f') := by
  refine Ct.ofV (by decide) (Nat.le_of_ble_eq_true rfl) rfl rfl ?_
  intro c X ret
  obtain ⟨w0, w1, w2, w3, w4⟩ := id hW
  refine Tlv (lv' := [(0, .ref (q 0)), (1, .int (enc (g))), (2, .int (enc (if ob = false then 1 else 0)))]) rfl ?_
  refine tw_iconst X dX5_measure_0 ?_
  refine tw_istore_n (lv' := [(3, .int (enc (0))), (0, .ref (q 0)), (1, .int (enc (g))), (2, .int (enc (if ob = false then 1 else 0)))]) X dX5_measure_1 rfl (by decide) rfl ?_
  have L2 : ∀ (fu i : Nat) (f1 : Int → Int), (i : Int) ≤ M 19 0 → M 19 0 + 1 ≤ (i : Int) + fu → (∀ c : Int, 0 ≤ c → c < (i : Int) → f1 c = if c = g then 0 else 9999) → T G c ({ frames := 2, cells := 0, slots := 0, locals := 43 } : Room) 7 0 0 (wP cy q M th kept f1) 2 [(0, .ref (q 0)), (1, .int (enc (g))), (2, .int (enc (if ob = false then 1 else 0))), (3, .int (enc ((i : Int))))] [] := by
    intro fu
    induction fu with
    | zero =>
      intro i f1 hi0 hi1
      exact absurd hi1 (by omega)
    | succ fu ih2 =>
      intro i f1 hi0_2 hi1_2 hI
      refine tw_iload_n X dX5_measure_2 3 rfl rfl ?_
      refine tw_aload_n X dX5_measure_3 0 rfl rfl ?_
      refine gf_X5_44 X (v := .int (enc (M 19 0))) 0 rfl rfl dX5_measure_4 ?_
      have b1 := hB 19 0
      refine tw_icmp_ge (tgt := 34) X (In_of (by omega) (by omega)) (In_of (by omega) (by omega)) dX5_measure_7 (by decide) (fun c7 => ?_) (fun c7 => ?_)
      · skip
        have hI2 : ∀ c : Int, 0 ≤ c → c < M 19 0 → f1 c = if c = g then 0 else 9999 := fun c c0 c1 => hI c c0 (by omega)
        have hF0 : BF M ob g f1 := ⟨fun c c0 c1 => by rw [hI2 c c0 c1]; by_cases e : c = g; (rw [if_pos e]; exact ⟨by decide, by decide, fun _ => ⟨0, e, rfl⟩⟩); (rw [if_neg e]; exact ⟨by decide, by decide, fun z => absurd z (by decide)⟩), by rw [hI2 g hg.1 hg.2, if_pos rfl]⟩
        refine tw_iconst X dX5_measure_34 ?_
        refine tw_istore_n (lv' := [(3, .int (enc (1))), (0, .ref (q 0)), (1, .int (enc (g))), (2, .int (enc (if ob = false then 1 else 0)))]) X dX5_measure_35 rfl (by decide) rfl ?_
        have L36 : ∀ (fu : Nat) (f2 : Int → Int) (g2 : Int), sumF f2 (M 19 0).toNat + g2 < (fu : Int) → BF M ob g f2 → (g2 = 0 ∨ g2 = 1) → (g2 = 0 → BS M ob f2 (M 16 0)) → T G c ({ frames := 2, cells := 0, slots := 0, locals := 43 } : Room) 7 0 0 (wP cy q M th kept f2) 36 [(0, .ref (q 0)), (1, .int (enc (g))), (2, .int (enc (if ob = false then 1 else 0))), (3, .int (enc (g2)))] [] := by
          intro fu
          induction fu with
          | zero =>
            intro f2 g2 hmu hF2 hg2 hs2
            have := sumF_lo (f := f2) (M 19 0).toNat (fun c c0 c1 => (hF2.1 c c0 (by omega)).1)
            exact absurd hmu (by omega)
          | succ fu ih36 =>
            intro f2 g2 hmu36 hF2 hg2 hs2
            refine tw_iload_n X dX5_measure_36 3 rfl rfl ?_
            refine tw_if_eq (tgt := 187) X (In_of (by omega) (by omega)) dX5_measure_37 (by decide) (fun c37 => ?_) (fun c37 => ?_)
            · skip
              exact ret _ _ _ dX5_measure_187 ⟨rfl, f2, fun c c0 c1 => hF2.done hW (hs2 c37) c0 c1, rfl⟩
            · skip
              refine tw_iconst X dX5_measure_40 ?_
              refine tw_istore_n (lv' := [(3, .int (enc (0))), (0, .ref (q 0)), (1, .int (enc (g))), (2, .int (enc (if ob = false then 1 else 0)))]) X dX5_measure_41 rfl (by decide) rfl ?_
              refine tw_iconst X dX5_measure_42 ?_
              refine tw_istore (lv' := [(4, .int (enc (0))), (3, .int (enc (0))), (0, .ref (q 0)), (1, .int (enc (g))), (2, .int (enc (if ob = false then 1 else 0)))]) X dX5_measure_43 (by decide) rfl ?_
              have L45 : ∀ (fu i : Nat) (f3 : Int → Int) (g3 : Int), (i : Int) ≤ M 16 0 → M 16 0 + 1 ≤ (i : Int) + fu → BF M ob g f3 → (g3 = 0 ∨ g3 = 1) → (g3 = 0 → f3 = f2 ∧ BS M ob f2 (i : Int)) → (g3 = 1 → sumF f3 (M 19 0).toNat < sumF f2 (M 19 0).toNat) → T G c ({ frames := 2, cells := 0, slots := 0, locals := 43 } : Room) 7 0 0 (wP cy q M th kept f3) 45 [(0, .ref (q 0)), (1, .int (enc (g))), (2, .int (enc (if ob = false then 1 else 0))), (3, .int (enc (g3))), (4, .int (enc ((i : Int))))] [] := by
                intro fu
                induction fu with
                | zero =>
                  intro i f3 g3 hi0 hi1
                  exact absurd hi1 (by omega)
                | succ fu ih45 =>
                  intro i f3 g3 hi0_45 hi1_45 hF3 hg3 hs3 hd3
                  refine tw_iload X dX5_measure_45 4 rfl ?_
                  refine tw_aload_n X dX5_measure_47 0 rfl rfl ?_
                  refine gf_X5_51 X (v := .int (enc (M 16 0))) 0 rfl rfl dX5_measure_48 ?_
                  have b2 := hB 16 0
                  refine tw_icmp_ge (tgt := 184) X (In_of (by omega) (by omega)) (In_of (by omega) (by omega)) dX5_measure_51 (by decide) (fun c51 => ?_) (fun c51 => ?_)
                  · skip
                    refine tw_goto (tgt := 36) X dX5_measure_184 (by decide) ?_
                    refine Tsub (lv' := [(0, .ref (q 0)), (1, .int (enc (g))), (2, .int (enc (if ob = false then 1 else 0))), (3, .int (enc (g3)))]) [0, 1, 2, 3] rfl ?_
                    refine Teq (ws' := wP cy q M th kept (f3)) (lv' := [(0, .ref (q 0)), (1, .int (enc (g))), (2, .int (enc (if ob = false then 1 else 0))), (3, .int (enc ((g3))))]) (st' := []) (rfl) (rfl) rfl (ih36 (f3) (g3) (by rcases hg3 with z | z; (have := (hs3 z).1; rw [this, z]; omega); (have := hd3 z; rw [z]; omega)) (hF3) (hg3) (fun z => by rw [show M 16 0 = (i : Int) by omega, (hs3 z).1]; exact (hs3 z).2))
                  · skip
                    have gi := w4 (i : Int) (by omega) c51
                    have fo := hF3.1 (M 0 (i : Int)) (by omega) (by omega)
                    have ft := hF3.1 (M 1 (i : Int)) (by omega) (by omega)
                    have hl := hW.ln (r := (i : Int)) (by omega) c51
                    refine tw_iload_n X dX5_measure_54 2 rfl rfl ?_
                    refine tw_if_ne (tgt := 70) X In_b dX5_measure_55 (by decide) (fun c55 => ?_) (fun c55 => ?_)
                    · skip
                      have c55 := b01n.mp c55
                      have hu : usable M ob (i : Int) := by first | exact hu | exact ⟨by omega, c51, fun z => by rw [c55] at z; cases z⟩
                      refine tw_aload_n X dX5_measure_70 0 rfl rfl ?_
                      refine tw_iload X dX5_measure_71 4 rfl ?_
                      refine tw_callV X (As := [.int (enc ((i : Int)))]) (st := []) vw_X5_74 (m_X5_longNow (q := q) M th kept f3 ((i : Int)) (by omega)) ([]) ([]) rfl rfl (q0 := 0) rfl rfl rfl ⟨rfl, rfl, Nat.le_of_ble_eq_true rfl, Nat.le_of_ble_eq_true rfl⟩ ⟨Nat.le_of_ble_eq_true rfl, Nat.le_of_ble_eq_true rfl⟩ (Nat.le_of_ble_eq_true rfl) dX5_measure_73 (fun v w1 hp => ?_)
                      obtain ⟨rfl, rfl⟩ := hp
                      refine Teq (ws' := wP cy q M th kept f3) (lv' := [(0, .ref (q 0)), (1, .int (enc (g))), (2, .int (enc (if ob = false then 1 else 0))), (3, .int (enc (g3))), (4, .int (enc ((i : Int))))]) (st' := [.int (enc (len M (i : Int)))]) rfl rfl rfl ?_
                      refine tw_aload_n X dX5_measure_76 0 rfl rfl ?_
                      refine gf_X5_37 X (v := .ref (q 10)) 0 rfl rfl dX5_measure_77 ?_
                      refine tw_aload_n X dX5_measure_80 0 rfl rfl ?_
                      refine gf_X5_9 X (v := .ref (q 1)) 0 rfl rfl dX5_measure_81 ?_
                      refine tw_iload X dX5_measure_84 4 rfl ?_
                      refine tw_iald X (N := 20) (f := (M 0)) 1 rfl (by decide) (by omega) dX5_measure_86 ?_
                      refine Tst (st' := [.int (enc (M 0 (i : Int))), .ref (q 10), .int (enc (len M (i : Int)))]) rfl ?_
                      have b3 := hB 0 (i : Int)
                      refine tw_iald X (N := 10) (f := f3) 10 rfl (by decide) (by omega) dX5_measure_87 ?_
                      refine Tst (st' := [.int (enc (f3 (M 0 (i : Int)))), .int (enc (len M (i : Int)))]) rfl ?_
                      refine tw_aload_n X dX5_measure_88 0 rfl rfl ?_
                      refine gf_X5_37 X (v := .ref (q 10)) 0 rfl rfl dX5_measure_89 ?_
                      refine tw_aload_n X dX5_measure_92 0 rfl rfl ?_
                      refine gf_X5_13 X (v := .ref (q 2)) 0 rfl rfl dX5_measure_93 ?_
                      refine tw_iload X dX5_measure_96 4 rfl ?_
                      refine tw_iald X (N := 20) (f := (M 1)) 2 rfl (by decide) (by omega) dX5_measure_98 ?_
                      refine Tst (st' := [.int (enc (M 1 (i : Int))), .ref (q 10), .int (enc (f3 (M 0 (i : Int)))), .int (enc (len M (i : Int)))]) rfl ?_
                      have b4 := hB 1 (i : Int)
                      refine tw_iald X (N := 10) (f := f3) 10 rfl (by decide) (by omega) dX5_measure_99 ?_
                      refine Tst (st' := [.int (enc (f3 (M 1 (i : Int)))), .int (enc (f3 (M 0 (i : Int)))), .int (enc (len M (i : Int)))]) rfl ?_
                      refine tw_min (z := mn (f3 (M 0 (i : Int))) (f3 (M 1 (i : Int)))) X (In_of (by omega) (by omega)) (In_of (by omega) (by omega)) wl_X5_78 wm_min_s wm_i wm_min_c (Nat.le_of_ble_eq_true rfl) (Nat.le_of_ble_eq_true rfl) ⟨Nat.le_of_ble_eq_true rfl, Nat.le_of_ble_eq_true rfl⟩ dX5_measure_100 rfl ?_
                      refine tw_iadd (z := (len M (i : Int)) + (mn (f3 (M 0 (i : Int))) (f3 (M 1 (i : Int))))) X dX5_measure_103 rfl ?_
                      refine tw_istore (lv' := [(5, .int (enc ((len M (i : Int)) + (mn (f3 (M 0 (i : Int))) (f3 (M 1 (i : Int))))))), (0, .ref (q 0)), (1, .int (enc (g))), (2, .int (enc (if ob = false then 1 else 0))), (3, .int (enc (g3))), (4, .int (enc ((i : Int))))]) X dX5_measure_104 (by decide) rfl ?_
                      refine tw_aload_n X dX5_measure_106 1 rfl rfl ?_
                      refine gf_X5_37 X (v := .ref (q 10)) 0 rfl rfl dX5_measure_107 ?_
                      refine tw_aload_n X dX5_measure_110 1 rfl rfl ?_
                      refine gf_X5_9 X (v := .ref (q 1)) 0 rfl rfl dX5_measure_111 ?_
                      refine tw_iload X dX5_measure_114 5 rfl ?_
                      refine tw_iald X (N := 20) (f := (M 0)) 1 rfl (by decide) (by omega) dX5_measure_116 ?_
                      refine Tst (st' := [.int (enc (M 0 (i : Int))), .ref (q 10)]) rfl ?_
                      have b5 := hB 0 (i : Int)
                      refine tw_iald X (N := 10) (f := f3) 10 rfl (by decide) (by omega) dX5_measure_117 ?_
                      refine Tst (st' := [.int (enc (f3 (M 0 (i : Int))))]) rfl ?_
                      refine tw_aload_n X dX5_measure_118 1 rfl rfl ?_
                      refine gf_X5_37 X (v := .ref (q 10)) 0 rfl rfl dX5_measure_119 ?_
                      refine tw_aload_n X dX5_measure_122 1 rfl rfl ?_
                      refine gf_X5_13 X (v := .ref (q 2)) 0 rfl rfl dX5_measure_123 ?_
                      refine tw_iload X dX5_measure_126 5 rfl ?_
                      refine tw_iald X (N := 20) (f := (M 1)) 2 rfl (by decide) (by omega) dX5_measure_128 ?_
                      refine Tst (st' := [.int (enc (M 1 (i : Int))), .ref (q 10), .int (enc (f3 (M 0 (i : Int))))]) rfl ?_
                      have b6 := hB 1 (i : Int)
                      refine tw_iald X (N := 10) (f := f3) 10 rfl (by decide) (by omega) dX5_measure_129 ?_
                      refine Tst (st' := [.int (enc (f3 (M 1 (i : Int)))), .int (enc (f3 (M 0 (i : Int))))]) rfl ?_
                      refine tw_icmp_le (tgt := 143) X (In_of (by omega) (by omega)) (In_of (by omega) (by omega)) dX5_measure_130 (by decide) (fun c130 => ?_) (fun c130 => ?_)
                      · skip
                        have em : mn (f3 (M 0 (i : Int))) (f3 (M 1 (i : Int))) = f3 (M 0 (i : Int)) := by unfold mn; rw [if_neg (by omega)]
                        have hSET : len M (i : Int) + mn (f3 (M 0 (i : Int))) (f3 (M 1 (i : Int))) < f3 (M 1 (i : Int)) → BF M ob g (ups f3 (M 1 (i : Int)) (len M (i : Int) + mn (f3 (M 0 (i : Int))) (f3 (M 1 (i : Int))))) ∧ sumF (ups f3 (M 1 (i : Int)) (len M (i : Int) + mn (f3 (M 0 (i : Int))) (f3 (M 1 (i : Int))))) (M 19 0).toNat < sumF f3 (M 19 0).toNat := fun z => ⟨by rw [em] at z ⊢; exact hF3.set hW hu (Or.inr ⟨rfl, rfl⟩) z, sumF_dec (by omega) (by omega) z⟩
                        refine tw_aload_n X dX5_measure_143 1 rfl rfl ?_
                        refine gf_X5_13 X (v := .ref (q 2)) 0 rfl rfl dX5_measure_144 ?_
                        refine tw_iload X dX5_measure_147 5 rfl ?_
                        refine tw_iald X (N := 20) (f := (M 1)) 2 rfl (by decide) (by omega) dX5_measure_149 ?_
                        refine Tst (st' := [.int (enc (M 1 (i : Int)))]) rfl ?_
                        have b7 := hB 1 (i : Int)
                        refine tw_istore (lv' := [(6, .int (enc (M 1 (i : Int)))), (5, .int (enc ((len M (i : Int)) + (mn (f3 (M 0 (i : Int))) (f3 (M 1 (i : Int))))))), (0, .ref (q 0)), (1, .int (enc (g))), (2, .int (enc (if ob = false then 1 else 0))), (3, .int (enc (g3))), (4, .int (enc ((i : Int))))]) X dX5_measure_150 (by decide) rfl ?_
                        refine tw_iload X dX5_measure_152 1 rfl ?_
                        refine tw_aload_n X dX5_measure_154 2 rfl rfl ?_
                        refine gf_X5_37 X (v := .ref (q 10)) 0 rfl rfl dX5_measure_155 ?_
                        refine tw_iload X dX5_measure_158 0 rfl ?_
                        refine tw_iald X (N := 10) (f := f3) 10 rfl (by decide) (by omega) dX5_measure_160 ?_
                        refine Tst (st' := [.int (enc (f3 (M 1 (i : Int)))), .int (enc ((len M (i : Int)) + (mn (f3 (M 0 (i : Int))) (f3 (M 1 (i : Int))))))]) rfl ?_
                        refine tw_icmp_lt (tgt := 167) X (In_of (by omega) (by omega)) (In_of (by omega) (by omega)) dX5_measure_161 (by decide) (fun c161 => ?_) (fun c161 => ?_)
                        · skip
                          have hS := hSET c161
                          have hle : sumF f3 (M 19 0).toNat ≤ sumF f2 (M 19 0).toNat := by rcases hg3 with z | z; (rw [(hs3 z).1]; exact Int.le_refl _); (have := hd3 z; omega)
                          refine tw_aload_n X dX5_measure_167 2 rfl rfl ?_
                          refine gf_X5_37 X (v := .ref (q 10)) 0 rfl rfl dX5_measure_168 ?_
                          refine tw_iload X dX5_measure_171 0 rfl ?_
                          refine tw_iload X dX5_measure_173 1 rfl ?_
                          refine tw_iast X (N := 10) (f := f3) (ws' := wP cy q M th kept (ups f3 (M 1 (i : Int)) ((len M (i : Int)) + (mn (f3 (M 0 (i : Int))) (f3 (M 1 (i : Int))))))) 10 rfl (by decide) (by omega) dX5_measure_175 rfl ?_
                          refine tw_iconst X dX5_measure_176 ?_
                          refine tw_istore_n (lv' := [(3, .int (enc (1))), (6, .int (enc (M 1 (i : Int)))), (5, .int (enc ((len M (i : Int)) + (mn (f3 (M 0 (i : Int))) (f3 (M 1 (i : Int))))))), (0, .ref (q 0)), (1, .int (enc (g))), (2, .int (enc (if ob = false then 1 else 0))), (4, .int (enc ((i : Int))))]) X dX5_measure_177 rfl (by decide) rfl ?_
                          refine tw_iinc (q := 6) (x := (i : Int)) (y := (i : Int) + 1) (lv' := [(4, .int (enc ((i : Int) + 1))), (3, .int (enc (1))), (6, .int (enc (M 1 (i : Int)))), (5, .int (enc ((len M (i : Int)) + (mn (f3 (M 0 (i : Int))) (f3 (M 1 (i : Int))))))), (0, .ref (q 0)), (1, .int (enc (g))), (2, .int (enc (if ob = false then 1 else 0)))]) X dX5_measure_178 rfl rfl (by decide) rfl ?_
                          refine tw_goto (tgt := 45) X dX5_measure_181 (by decide) ?_
                          refine Tsub (lv' := [(0, .ref (q 0)), (1, .int (enc (g))), (2, .int (enc (if ob = false then 1 else 0))), (3, .int (enc (1))), (4, .int (enc ((i : Int) + 1)))]) [4, 5, 6, 1, 0] rfl ?_
                          refine Teq (ws' := wP cy q M th kept ((ups f3 (M 1 (i : Int)) ((len M (i : Int)) + (mn (f3 (M 0 (i : Int))) (f3 (M 1 (i : Int)))))))) (lv' := [(0, .ref (q 0)), (1, .int (enc (g))), (2, .int (enc (if ob = false then 1 else 0))), (3, .int (enc ((1)))), (4, .int (enc (((i + 1 : Nat) : Int))))]) (st' := []) (rfl) (lvk (lvk (lvk (lvk (lvc (i_succ i) (rfl)))))) rfl (ih45 (i + 1) ((ups f3 (M 1 (i : Int)) ((len M (i : Int)) + (mn (f3 (M 0 (i : Int))) (f3 (M 1 (i : Int))))))) (1) (by omega) (by omega) (hS.1) (Or.inr rfl) (fun z => absurd z (by decide)) (fun _ => by have := hS.2; omega))
                        · skip
                          have hNF := hF3
                          have hNg := hg3
                          have hNs : g3 = 0 → f3 = f2 ∧ BS M ob f2 ((i + 1 : Nat) : Int) := fun z => ⟨(hs3 z).1, fun r hu hr => by by_cases e : r = (i : Int); (rw [e, ← (hs3 z).1]; omega); exact (hs3 z).2 r hu (by omega)⟩
                          have hNd := hd3
                          refine tw_goto (tgt := 178) X dX5_measure_164 (by decide) ?_
                          refine tw_iinc (q := 6) (x := (i : Int)) (y := (i : Int) + 1) (lv' := [(4, .int (enc ((i : Int) + 1))), (6, .int (enc (M 1 (i : Int)))), (5, .int (enc ((len M (i : Int)) + (mn (f3 (M 0 (i : Int))) (f3 (M 1 (i : Int))))))), (0, .ref (q 0)), (1, .int (enc (g))), (2, .int (enc (if ob = false then 1 else 0))), (3, .int (enc (g3)))]) X dX5_measure_178 rfl rfl (by decide) rfl ?_
                          refine tw_goto (tgt := 45) X dX5_measure_181 (by decide) ?_
                          refine Tsub (lv' := [(0, .ref (q 0)), (1, .int (enc (g))), (2, .int (enc (if ob = false then 1 else 0))), (3, .int (enc (g3))), (4, .int (enc ((i : Int) + 1)))]) [3, 4, 5, 6, 0] rfl ?_
                          refine Teq (ws' := wP cy q M th kept (f3)) (lv' := [(0, .ref (q 0)), (1, .int (enc (g))), (2, .int (enc (if ob = false then 1 else 0))), (3, .int (enc ((g3)))), (4, .int (enc (((i + 1 : Nat) : Int))))]) (st' := []) (rfl) (lvk (lvk (lvk (lvk (lvc (i_succ i) (rfl)))))) rfl (ih45 (i + 1) (f3) (g3) (by omega) (by omega) (hNF) (hNg) (hNs) (hNd))
                      · skip
                        have em : mn (f3 (M 0 (i : Int))) (f3 (M 1 (i : Int))) = f3 (M 1 (i : Int)) := by unfold mn; rw [if_pos c130]
                        have hSET : len M (i : Int) + mn (f3 (M 0 (i : Int))) (f3 (M 1 (i : Int))) < f3 (M 0 (i : Int)) → BF M ob g (ups f3 (M 0 (i : Int)) (len M (i : Int) + mn (f3 (M 0 (i : Int))) (f3 (M 1 (i : Int))))) ∧ sumF (ups f3 (M 0 (i : Int)) (len M (i : Int) + mn (f3 (M 0 (i : Int))) (f3 (M 1 (i : Int))))) (M 19 0).toNat < sumF f3 (M 19 0).toNat := fun z => ⟨by rw [em] at z ⊢; exact hF3.set hW hu (Or.inl ⟨rfl, rfl⟩) z, sumF_dec (by omega) (by omega) z⟩
                        refine tw_aload_n X dX5_measure_133 1 rfl rfl ?_
                        refine gf_X5_9 X (v := .ref (q 1)) 0 rfl rfl dX5_measure_134 ?_
                        refine tw_iload X dX5_measure_137 5 rfl ?_
                        refine tw_iald X (N := 20) (f := (M 0)) 1 rfl (by decide) (by omega) dX5_measure_139 ?_
                        refine Tst (st' := [.int (enc (M 0 (i : Int)))]) rfl ?_
                        have b8 := hB 0 (i : Int)
                        refine tw_goto (tgt := 150) X dX5_measure_140 (by decide) ?_
                        refine tw_istore (lv' := [(6, .int (enc (M 0 (i : Int)))), (5, .int (enc ((len M (i : Int)) + (mn (f3 (M 0 (i : Int))) (f3 (M 1 (i : Int))))))), (0, .ref (q 0)), (1, .int (enc (g))), (2, .int (enc (if ob = false then 1 else 0))), (3, .int (enc (g3))), (4, .int (enc ((i : Int))))]) X dX5_measure_150 (by decide) rfl ?_
                        refine tw_iload X dX5_measure_152 1 rfl ?_
                        refine tw_aload_n X dX5_measure_154 2 rfl rfl ?_
                        refine gf_X5_37 X (v := .ref (q 10)) 0 rfl rfl dX5_measure_155 ?_
                        refine tw_iload X dX5_measure_158 0 rfl ?_
                        refine tw_iald X (N := 10) (f := f3) 10 rfl (by decide) (by omega) dX5_measure_160 ?_
                        refine Tst (st' := [.int (enc (f3 (M 0 (i : Int)))), .int (enc ((len M (i : Int)) + (mn (f3 (M 0 (i : Int))) (f3 (M 1 (i : Int))))))]) rfl ?_
                        refine tw_icmp_lt (tgt := 167) X (In_of (by omega) (by omega)) (In_of (by omega) (by omega)) dX5_measure_161 (by decide) (fun c161 => ?_) (fun c161 => ?_)
                        · skip
                          have hS := hSET c161
                          have hle : sumF f3 (M 19 0).toNat ≤ sumF f2 (M 19 0).toNat := by rcases hg3 with z | z; (rw [(hs3 z).1]; exact Int.le_refl _); (have := hd3 z; omega)
                          refine tw_aload_n X dX5_measure_167 2 rfl rfl ?_
                          refine gf_X5_37 X (v := .ref (q 10)) 0 rfl rfl dX5_measure_168 ?_
                          refine tw_iload X dX5_measure_171 0 rfl ?_
                          refine tw_iload X dX5_measure_173 1 rfl ?_
                          refine tw_iast X (N := 10) (f := f3) (ws' := wP cy q M th kept (ups f3 (M 0 (i : Int)) ((len M (i : Int)) + (mn (f3 (M 0 (i : Int))) (f3 (M 1 (i : Int))))))) 10 rfl (by decide) (by omega) dX5_measure_175 rfl ?_
                          refine tw_iconst X dX5_measure_176 ?_
                          refine tw_istore_n (lv' := [(3, .int (enc (1))), (6, .int (enc (M 0 (i : Int)))), (5, .int (enc ((len M (i : Int)) + (mn (f3 (M 0 (i : Int))) (f3 (M 1 (i : Int))))))), (0, .ref (q 0)), (1, .int (enc (g))), (2, .int (enc (if ob = false then 1 else 0))), (4, .int (enc ((i : Int))))]) X dX5_measure_177 rfl (by decide) rfl ?_
                          refine tw_iinc (q := 6) (x := (i : Int)) (y := (i : Int) + 1) (lv' := [(4, .int (enc ((i : Int) + 1))), (3, .int (enc (1))), (6, .int (enc (M 0 (i : Int)))), (5, .int (enc ((len M (i : Int)) + (mn (f3 (M 0 (i : Int))) (f3 (M 1 (i : Int))))))), (0, .ref (q 0)), (1, .int (enc (g))), (2, .int (enc (if ob = false then 1 else 0)))]) X dX5_measure_178 rfl rfl (by decide) rfl ?_
                          refine tw_goto (tgt := 45) X dX5_measure_181 (by decide) ?_
                          refine Tsub (lv' := [(0, .ref (q 0)), (1, .int (enc (g))), (2, .int (enc (if ob = false then 1 else 0))), (3, .int (enc (1))), (4, .int (enc ((i : Int) + 1)))]) [4, 5, 6, 1, 0] rfl ?_
                          refine Teq (ws' := wP cy q M th kept ((ups f3 (M 0 (i : Int)) ((len M (i : Int)) + (mn (f3 (M 0 (i : Int))) (f3 (M 1 (i : Int)))))))) (lv' := [(0, .ref (q 0)), (1, .int (enc (g))), (2, .int (enc (if ob = false then 1 else 0))), (3, .int (enc ((1)))), (4, .int (enc (((i + 1 : Nat) : Int))))]) (st' := []) (rfl) (lvk (lvk (lvk (lvk (lvc (i_succ i) (rfl)))))) rfl (ih45 (i + 1) ((ups f3 (M 0 (i : Int)) ((len M (i : Int)) + (mn (f3 (M 0 (i : Int))) (f3 (M 1 (i : Int))))))) (1) (by omega) (by omega) (hS.1) (Or.inr rfl) (fun z => absurd z (by decide)) (fun _ => by have := hS.2; omega))
                        · skip
                          have hNF := hF3
                          have hNg := hg3
                          have hNs : g3 = 0 → f3 = f2 ∧ BS M ob f2 ((i + 1 : Nat) : Int) := fun z => ⟨(hs3 z).1, fun r hu hr => by by_cases e : r = (i : Int); (rw [e, ← (hs3 z).1]; omega); exact (hs3 z).2 r hu (by omega)⟩
                          have hNd := hd3
                          refine tw_goto (tgt := 178) X dX5_measure_164 (by decide) ?_
                          refine tw_iinc (q := 6) (x := (i : Int)) (y := (i : Int) + 1) (lv' := [(4, .int (enc ((i : Int) + 1))), (6, .int (enc (M 0 (i : Int)))), (5, .int (enc ((len M (i : Int)) + (mn (f3 (M 0 (i : Int))) (f3 (M 1 (i : Int))))))), (0, .ref (q 0)), (1, .int (enc (g))), (2, .int (enc (if ob = false then 1 else 0))), (3, .int (enc (g3)))]) X dX5_measure_178 rfl rfl (by decide) rfl ?_
                          refine tw_goto (tgt := 45) X dX5_measure_181 (by decide) ?_
                          refine Tsub (lv' := [(0, .ref (q 0)), (1, .int (enc (g))), (2, .int (enc (if ob = false then 1 else 0))), (3, .int (enc (g3))), (4, .int (enc ((i : Int) + 1)))]) [3, 4, 5, 6, 0] rfl ?_
                          refine Teq (ws' := wP cy q M th kept (f3)) (lv' := [(0, .ref (q 0)), (1, .int (enc (g))), (2, .int (enc (if ob = false then 1 else 0))), (3, .int (enc ((g3)))), (4, .int (enc (((i + 1 : Nat) : Int))))]) (st' := []) (rfl) (lvk (lvk (lvk (lvk (lvc (i_succ i) (rfl)))))) rfl (ih45 (i + 1) (f3) (g3) (by omega) (by omega) (hNF) (hNg) (hNs) (hNd))
                    · skip
                      have c55 := b01.mp c55
                      have hob : ob = true := by cases ob; exact absurd rfl c55; rfl
                      refine tw_aload_n X dX5_measure_58 0 rfl rfl ?_
                      refine tw_iload X dX5_measure_59 4 rfl ?_
                      refine tw_callV X (As := [.int (enc ((i : Int)))]) (st := []) vw_X5_70 (m_X5_isOpen (q := q) M th kept f3 ((i : Int)) hB (by omega)) ([]) ([]) rfl rfl (q0 := 0) rfl rfl rfl ⟨rfl, rfl, Nat.le_of_ble_eq_true rfl, Nat.le_of_ble_eq_true rfl⟩ ⟨Nat.le_of_ble_eq_true rfl, Nat.le_of_ble_eq_true rfl⟩ (Nat.le_of_ble_eq_true rfl) dX5_measure_61 (fun v w1 hp => ?_)
                      obtain ⟨rfl, rfl⟩ := hp
                      refine Teq (ws' := wP cy q M th kept f3) (lv' := [(0, .ref (q 0)), (1, .int (enc (g))), (2, .int (enc (if ob = false then 1 else 0))), (3, .int (enc (g3))), (4, .int (enc ((i : Int))))]) (st' := [.int (enc (if M 6 (i : Int) = 0 then 1 else 0))]) rfl rfl rfl ?_
                      refine tw_if_ne (tgt := 70) X In_b dX5_measure_64 (by decide) (fun c64 => ?_) (fun c64 => ?_)
                      · skip
                        have c64 := b01n.mp c64
                        have hu : usable M ob (i : Int) := ⟨by omega, c51, fun _ => c64⟩
                        have hu : usable M ob (i : Int) := by first | exact hu | exact ⟨by omega, c51, fun z => by rw [c55] at z; cases z⟩
                        refine tw_aload_n X dX5_measure_70 0 rfl rfl ?_
                        refine tw_iload X dX5_measure_71 4 rfl ?_
                        refine tw_callV X (As := [.int (enc ((i : Int)))]) (st := []) vw_X5_74 (m_X5_longNow (q := q) M th kept f3 ((i : Int)) (by omega)) ([]) ([]) rfl rfl (q0 := 0) rfl rfl rfl ⟨rfl, rfl, Nat.le_of_ble_eq_true rfl, Nat.le_of_ble_eq_true rfl⟩ ⟨Nat.le_of_ble_eq_true rfl, Nat.le_of_ble_eq_true rfl⟩ (Nat.le_of_ble_eq_true rfl) dX5_measure_73 (fun v w1 hp => ?_)
                        obtain ⟨rfl, rfl⟩ := hp
                        refine Teq (ws' := wP cy q M th kept f3) (lv' := [(0, .ref (q 0)), (1, .int (enc (g))), (2, .int (enc (if ob = false then 1 else 0))), (3, .int (enc (g3))), (4, .int (enc ((i : Int))))]) (st' := [.int (enc (len M (i : Int)))]) rfl rfl rfl ?_
                        refine tw_aload_n X dX5_measure_76 0 rfl rfl ?_
                        refine gf_X5_37 X (v := .ref (q 10)) 0 rfl rfl dX5_measure_77 ?_
                        refine tw_aload_n X dX5_measure_80 0 rfl rfl ?_
                        refine gf_X5_9 X (v := .ref (q 1)) 0 rfl rfl dX5_measure_81 ?_
                        refine tw_iload X dX5_measure_84 4 rfl ?_
                        refine tw_iald X (N := 20) (f := (M 0)) 1 rfl (by decide) (by omega) dX5_measure_86 ?_
                        refine Tst (st' := [.int (enc (M 0 (i : Int))), .ref (q 10), .int (enc (len M (i : Int)))]) rfl ?_
                        have b9 := hB 0 (i : Int)
                        refine tw_iald X (N := 10) (f := f3) 10 rfl (by decide) (by omega) dX5_measure_87 ?_
                        refine Tst (st' := [.int (enc (f3 (M 0 (i : Int)))), .int (enc (len M (i : Int)))]) rfl ?_
                        refine tw_aload_n X dX5_measure_88 0 rfl rfl ?_
                        refine gf_X5_37 X (v := .ref (q 10)) 0 rfl rfl dX5_measure_89 ?_
                        refine tw_aload_n X dX5_measure_92 0 rfl rfl ?_
                        refine gf_X5_13 X (v := .ref (q 2)) 0 rfl rfl dX5_measure_93 ?_
                        refine tw_iload X dX5_measure_96 4 rfl ?_
                        refine tw_iald X (N := 20) (f := (M 1)) 2 rfl (by decide) (by omega) dX5_measure_98 ?_
                        refine Tst (st' := [.int (enc (M 1 (i : Int))), .ref (q 10), .int (enc (f3 (M 0 (i : Int)))), .int (enc (len M (i : Int)))]) rfl ?_
                        have b10 := hB 1 (i : Int)
                        refine tw_iald X (N := 10) (f := f3) 10 rfl (by decide) (by omega) dX5_measure_99 ?_
                        refine Tst (st' := [.int (enc (f3 (M 1 (i : Int)))), .int (enc (f3 (M 0 (i : Int)))), .int (enc (len M (i : Int)))]) rfl ?_
                        refine tw_min (z := mn (f3 (M 0 (i : Int))) (f3 (M 1 (i : Int)))) X (In_of (by omega) (by omega)) (In_of (by omega) (by omega)) wl_X5_78 wm_min_s wm_i wm_min_c (Nat.le_of_ble_eq_true rfl) (Nat.le_of_ble_eq_true rfl) ⟨Nat.le_of_ble_eq_true rfl, Nat.le_of_ble_eq_true rfl⟩ dX5_measure_100 rfl ?_
                        refine tw_iadd (z := (len M (i : Int)) + (mn (f3 (M 0 (i : Int))) (f3 (M 1 (i : Int))))) X dX5_measure_103 rfl ?_
                        refine tw_istore (lv' := [(5, .int (enc ((len M (i : Int)) + (mn (f3 (M 0 (i : Int))) (f3 (M 1 (i : Int))))))), (0, .ref (q 0)), (1, .int (enc (g))), (2, .int (enc (if ob = false then 1 else 0))), (3, .int (enc (g3))), (4, .int (enc ((i : Int))))]) X dX5_measure_104 (by decide) rfl ?_
                        refine tw_aload_n X dX5_measure_106 1 rfl rfl ?_
                        refine gf_X5_37 X (v := .ref (q 10)) 0 rfl rfl dX5_measure_107 ?_
                        refine tw_aload_n X dX5_measure_110 1 rfl rfl ?_
                        refine gf_X5_9 X (v := .ref (q 1)) 0 rfl rfl dX5_measure_111 ?_
                        refine tw_iload X dX5_measure_114 5 rfl ?_
                        refine tw_iald X (N := 20) (f := (M 0)) 1 rfl (by decide) (by omega) dX5_measure_116 ?_
                        refine Tst (st' := [.int (enc (M 0 (i : Int))), .ref (q 10)]) rfl ?_
                        have b11 := hB 0 (i : Int)
                        refine tw_iald X (N := 10) (f := f3) 10 rfl (by decide) (by omega) dX5_measure_117 ?_
                        refine Tst (st' := [.int (enc (f3 (M 0 (i : Int))))]) rfl ?_
                        refine tw_aload_n X dX5_measure_118 1 rfl rfl ?_
                        refine gf_X5_37 X (v := .ref (q 10)) 0 rfl rfl dX5_measure_119 ?_
                        refine tw_aload_n X dX5_measure_122 1 rfl rfl ?_
                        refine gf_X5_13 X (v := .ref (q 2)) 0 rfl rfl dX5_measure_123 ?_
                        refine tw_iload X dX5_measure_126 5 rfl ?_
                        refine tw_iald X (N := 20) (f := (M 1)) 2 rfl (by decide) (by omega) dX5_measure_128 ?_
                        refine Tst (st' := [.int (enc (M 1 (i : Int))), .ref (q 10), .int (enc (f3 (M 0 (i : Int))))]) rfl ?_
                        have b12 := hB 1 (i : Int)
                        refine tw_iald X (N := 10) (f := f3) 10 rfl (by decide) (by omega) dX5_measure_129 ?_
                        refine Tst (st' := [.int (enc (f3 (M 1 (i : Int)))), .int (enc (f3 (M 0 (i : Int))))]) rfl ?_
                        refine tw_icmp_le (tgt := 143) X (In_of (by omega) (by omega)) (In_of (by omega) (by omega)) dX5_measure_130 (by decide) (fun c130 => ?_) (fun c130 => ?_)
                        · skip
                          have em : mn (f3 (M 0 (i : Int))) (f3 (M 1 (i : Int))) = f3 (M 0 (i : Int)) := by unfold mn; rw [if_neg (by omega)]
                          have hSET : len M (i : Int) + mn (f3 (M 0 (i : Int))) (f3 (M 1 (i : Int))) < f3 (M 1 (i : Int)) → BF M ob g (ups f3 (M 1 (i : Int)) (len M (i : Int) + mn (f3 (M 0 (i : Int))) (f3 (M 1 (i : Int))))) ∧ sumF (ups f3 (M 1 (i : Int)) (len M (i : Int) + mn (f3 (M 0 (i : Int))) (f3 (M 1 (i : Int))))) (M 19 0).toNat < sumF f3 (M 19 0).toNat := fun z => ⟨by rw [em] at z ⊢; exact hF3.set hW hu (Or.inr ⟨rfl, rfl⟩) z, sumF_dec (by omega) (by omega) z⟩
                          refine tw_aload_n X dX5_measure_143 1 rfl rfl ?_
                          refine gf_X5_13 X (v := .ref (q 2)) 0 rfl rfl dX5_measure_144 ?_
                          refine tw_iload X dX5_measure_147 5 rfl ?_
                          refine tw_iald X (N := 20) (f := (M 1)) 2 rfl (by decide) (by omega) dX5_measure_149 ?_
                          refine Tst (st' := [.int (enc (M 1 (i : Int)))]) rfl ?_
                          have b13 := hB 1 (i : Int)
                          refine tw_istore (lv' := [(6, .int (enc (M 1 (i : Int)))), (5, .int (enc ((len M (i : Int)) + (mn (f3 (M 0 (i : Int))) (f3 (M 1 (i : Int))))))), (0, .ref (q 0)), (1, .int (enc (g))), (2, .int (enc (if ob = false then 1 else 0))), (3, .int (enc (g3))), (4, .int (enc ((i : Int))))]) X dX5_measure_150 (by decide) rfl ?_
                          refine tw_iload X dX5_measure_152 1 rfl ?_
                          refine tw_aload_n X dX5_measure_154 2 rfl rfl ?_
                          refine gf_X5_37 X (v := .ref (q 10)) 0 rfl rfl dX5_measure_155 ?_
                          refine tw_iload X dX5_measure_158 0 rfl ?_
                          refine tw_iald X (N := 10) (f := f3) 10 rfl (by decide) (by omega) dX5_measure_160 ?_
                          refine Tst (st' := [.int (enc (f3 (M 1 (i : Int)))), .int (enc ((len M (i : Int)) + (mn (f3 (M 0 (i : Int))) (f3 (M 1 (i : Int))))))]) rfl ?_
                          refine tw_icmp_lt (tgt := 167) X (In_of (by omega) (by omega)) (In_of (by omega) (by omega)) dX5_measure_161 (by decide) (fun c161 => ?_) (fun c161 => ?_)
                          · skip
                            have hS := hSET c161
                            have hle : sumF f3 (M 19 0).toNat ≤ sumF f2 (M 19 0).toNat := by rcases hg3 with z | z; (rw [(hs3 z).1]; exact Int.le_refl _); (have := hd3 z; omega)
                            refine tw_aload_n X dX5_measure_167 2 rfl rfl ?_
                            refine gf_X5_37 X (v := .ref (q 10)) 0 rfl rfl dX5_measure_168 ?_
                            refine tw_iload X dX5_measure_171 0 rfl ?_
                            refine tw_iload X dX5_measure_173 1 rfl ?_
                            refine tw_iast X (N := 10) (f := f3) (ws' := wP cy q M th kept (ups f3 (M 1 (i : Int)) ((len M (i : Int)) + (mn (f3 (M 0 (i : Int))) (f3 (M 1 (i : Int))))))) 10 rfl (by decide) (by omega) dX5_measure_175 rfl ?_
                            refine tw_iconst X dX5_measure_176 ?_
                            refine tw_istore_n (lv' := [(3, .int (enc (1))), (6, .int (enc (M 1 (i : Int)))), (5, .int (enc ((len M (i : Int)) + (mn (f3 (M 0 (i : Int))) (f3 (M 1 (i : Int))))))), (0, .ref (q 0)), (1, .int (enc (g))), (2, .int (enc (if ob = false then 1 else 0))), (4, .int (enc ((i : Int))))]) X dX5_measure_177 rfl (by decide) rfl ?_
                            refine tw_iinc (q := 6) (x := (i : Int)) (y := (i : Int) + 1) (lv' := [(4, .int (enc ((i : Int) + 1))), (3, .int (enc (1))), (6, .int (enc (M 1 (i : Int)))), (5, .int (enc ((len M (i : Int)) + (mn (f3 (M 0 (i : Int))) (f3 (M 1 (i : Int))))))), (0, .ref (q 0)), (1, .int (enc (g))), (2, .int (enc (if ob = false then 1 else 0)))]) X dX5_measure_178 rfl rfl (by decide) rfl ?_
                            refine tw_goto (tgt := 45) X dX5_measure_181 (by decide) ?_
                            refine Tsub (lv' := [(0, .ref (q 0)), (1, .int (enc (g))), (2, .int (enc (if ob = false then 1 else 0))), (3, .int (enc (1))), (4, .int (enc ((i : Int) + 1)))]) [4, 5, 6, 1, 0] rfl ?_
                            refine Teq (ws' := wP cy q M th kept ((ups f3 (M 1 (i : Int)) ((len M (i : Int)) + (mn (f3 (M 0 (i : Int))) (f3 (M 1 (i : Int)))))))) (lv' := [(0, .ref (q 0)), (1, .int (enc (g))), (2, .int (enc (if ob = false then 1 else 0))), (3, .int (enc ((1)))), (4, .int (enc (((i + 1 : Nat) : Int))))]) (st' := []) (rfl) (lvk (lvk (lvk (lvk (lvc (i_succ i) (rfl)))))) rfl (ih45 (i + 1) ((ups f3 (M 1 (i : Int)) ((len M (i : Int)) + (mn (f3 (M 0 (i : Int))) (f3 (M 1 (i : Int))))))) (1) (by omega) (by omega) (hS.1) (Or.inr rfl) (fun z => absurd z (by decide)) (fun _ => by have := hS.2; omega))
                          · skip
                            have hNF := hF3
                            have hNg := hg3
                            have hNs : g3 = 0 → f3 = f2 ∧ BS M ob f2 ((i + 1 : Nat) : Int) := fun z => ⟨(hs3 z).1, fun r hu hr => by by_cases e : r = (i : Int); (rw [e, ← (hs3 z).1]; omega); exact (hs3 z).2 r hu (by omega)⟩
                            have hNd := hd3
                            refine tw_goto (tgt := 178) X dX5_measure_164 (by decide) ?_
                            refine tw_iinc (q := 6) (x := (i : Int)) (y := (i : Int) + 1) (lv' := [(4, .int (enc ((i : Int) + 1))), (6, .int (enc (M 1 (i : Int)))), (5, .int (enc ((len M (i : Int)) + (mn (f3 (M 0 (i : Int))) (f3 (M 1 (i : Int))))))), (0, .ref (q 0)), (1, .int (enc (g))), (2, .int (enc (if ob = false then 1 else 0))), (3, .int (enc (g3)))]) X dX5_measure_178 rfl rfl (by decide) rfl ?_
                            refine tw_goto (tgt := 45) X dX5_measure_181 (by decide) ?_
                            refine Tsub (lv' := [(0, .ref (q 0)), (1, .int (enc (g))), (2, .int (enc (if ob = false then 1 else 0))), (3, .int (enc (g3))), (4, .int (enc ((i : Int) + 1)))]) [3, 4, 5, 6, 0] rfl ?_
                            refine Teq (ws' := wP cy q M th kept (f3)) (lv' := [(0, .ref (q 0)), (1, .int (enc (g))), (2, .int (enc (if ob = false then 1 else 0))), (3, .int (enc ((g3)))), (4, .int (enc (((i + 1 : Nat) : Int))))]) (st' := []) (rfl) (lvk (lvk (lvk (lvk (lvc (i_succ i) (rfl)))))) rfl (ih45 (i + 1) (f3) (g3) (by omega) (by omega) (hNF) (hNg) (hNs) (hNd))
                        · skip
                          have em : mn (f3 (M 0 (i : Int))) (f3 (M 1 (i : Int))) = f3 (M 1 (i : Int)) := by unfold mn; rw [if_pos c130]
                          have hSET : len M (i : Int) + mn (f3 (M 0 (i : Int))) (f3 (M 1 (i : Int))) < f3 (M 0 (i : Int)) → BF M ob g (ups f3 (M 0 (i : Int)) (len M (i : Int) + mn (f3 (M 0 (i : Int))) (f3 (M 1 (i : Int))))) ∧ sumF (ups f3 (M 0 (i : Int)) (len M (i : Int) + mn (f3 (M 0 (i : Int))) (f3 (M 1 (i : Int))))) (M 19 0).toNat < sumF f3 (M 19 0).toNat := fun z => ⟨by rw [em] at z ⊢; exact hF3.set hW hu (Or.inl ⟨rfl, rfl⟩) z, sumF_dec (by omega) (by omega) z⟩
                          refine tw_aload_n X dX5_measure_133 1 rfl rfl ?_
                          refine gf_X5_9 X (v := .ref (q 1)) 0 rfl rfl dX5_measure_134 ?_
                          refine tw_iload X dX5_measure_137 5 rfl ?_
                          refine tw_iald X (N := 20) (f := (M 0)) 1 rfl (by decide) (by omega) dX5_measure_139 ?_
                          refine Tst (st' := [.int (enc (M 0 (i : Int)))]) rfl ?_
                          have b14 := hB 0 (i : Int)
                          refine tw_goto (tgt := 150) X dX5_measure_140 (by decide) ?_
                          refine tw_istore (lv' := [(6, .int (enc (M 0 (i : Int)))), (5, .int (enc ((len M (i : Int)) + (mn (f3 (M 0 (i : Int))) (f3 (M 1 (i : Int))))))), (0, .ref (q 0)), (1, .int (enc (g))), (2, .int (enc (if ob = false then 1 else 0))), (3, .int (enc (g3))), (4, .int (enc ((i : Int))))]) X dX5_measure_150 (by decide) rfl ?_
                          refine tw_iload X dX5_measure_152 1 rfl ?_
                          refine tw_aload_n X dX5_measure_154 2 rfl rfl ?_
                          refine gf_X5_37 X (v := .ref (q 10)) 0 rfl rfl dX5_measure_155 ?_
                          refine tw_iload X dX5_measure_158 0 rfl ?_
                          refine tw_iald X (N := 10) (f := f3) 10 rfl (by decide) (by omega) dX5_measure_160 ?_
                          refine Tst (st' := [.int (enc (f3 (M 0 (i : Int)))), .int (enc ((len M (i : Int)) + (mn (f3 (M 0 (i : Int))) (f3 (M 1 (i : Int))))))]) rfl ?_
                          refine tw_icmp_lt (tgt := 167) X (In_of (by omega) (by omega)) (In_of (by omega) (by omega)) dX5_measure_161 (by decide) (fun c161 => ?_) (fun c161 => ?_)
                          · skip
                            have hS := hSET c161
                            have hle : sumF f3 (M 19 0).toNat ≤ sumF f2 (M 19 0).toNat := by rcases hg3 with z | z; (rw [(hs3 z).1]; exact Int.le_refl _); (have := hd3 z; omega)
                            refine tw_aload_n X dX5_measure_167 2 rfl rfl ?_
                            refine gf_X5_37 X (v := .ref (q 10)) 0 rfl rfl dX5_measure_168 ?_
                            refine tw_iload X dX5_measure_171 0 rfl ?_
                            refine tw_iload X dX5_measure_173 1 rfl ?_
                            refine tw_iast X (N := 10) (f := f3) (ws' := wP cy q M th kept (ups f3 (M 0 (i : Int)) ((len M (i : Int)) + (mn (f3 (M 0 (i : Int))) (f3 (M 1 (i : Int))))))) 10 rfl (by decide) (by omega) dX5_measure_175 rfl ?_
                            refine tw_iconst X dX5_measure_176 ?_
                            refine tw_istore_n (lv' := [(3, .int (enc (1))), (6, .int (enc (M 0 (i : Int)))), (5, .int (enc ((len M (i : Int)) + (mn (f3 (M 0 (i : Int))) (f3 (M 1 (i : Int))))))), (0, .ref (q 0)), (1, .int (enc (g))), (2, .int (enc (if ob = false then 1 else 0))), (4, .int (enc ((i : Int))))]) X dX5_measure_177 rfl (by decide) rfl ?_
                            refine tw_iinc (q := 6) (x := (i : Int)) (y := (i : Int) + 1) (lv' := [(4, .int (enc ((i : Int) + 1))), (3, .int (enc (1))), (6, .int (enc (M 0 (i : Int)))), (5, .int (enc ((len M (i : Int)) + (mn (f3 (M 0 (i : Int))) (f3 (M 1 (i : Int))))))), (0, .ref (q 0)), (1, .int (enc (g))), (2, .int (enc (if ob = false then 1 else 0)))]) X dX5_measure_178 rfl rfl (by decide) rfl ?_
                            refine tw_goto (tgt := 45) X dX5_measure_181 (by decide) ?_
                            refine Tsub (lv' := [(0, .ref (q 0)), (1, .int (enc (g))), (2, .int (enc (if ob = false then 1 else 0))), (3, .int (enc (1))), (4, .int (enc ((i : Int) + 1)))]) [4, 5, 6, 1, 0] rfl ?_
                            refine Teq (ws' := wP cy q M th kept ((ups f3 (M 0 (i : Int)) ((len M (i : Int)) + (mn (f3 (M 0 (i : Int))) (f3 (M 1 (i : Int)))))))) (lv' := [(0, .ref (q 0)), (1, .int (enc (g))), (2, .int (enc (if ob = false then 1 else 0))), (3, .int (enc ((1)))), (4, .int (enc (((i + 1 : Nat) : Int))))]) (st' := []) (rfl) (lvk (lvk (lvk (lvk (lvc (i_succ i) (rfl)))))) rfl (ih45 (i + 1) ((ups f3 (M 0 (i : Int)) ((len M (i : Int)) + (mn (f3 (M 0 (i : Int))) (f3 (M 1 (i : Int))))))) (1) (by omega) (by omega) (hS.1) (Or.inr rfl) (fun z => absurd z (by decide)) (fun _ => by have := hS.2; omega))
                          · skip
                            have hNF := hF3
                            have hNg := hg3
                            have hNs : g3 = 0 → f3 = f2 ∧ BS M ob f2 ((i + 1 : Nat) : Int) := fun z => ⟨(hs3 z).1, fun r hu hr => by by_cases e : r = (i : Int); (rw [e, ← (hs3 z).1]; omega); exact (hs3 z).2 r hu (by omega)⟩
                            have hNd := hd3
                            refine tw_goto (tgt := 178) X dX5_measure_164 (by decide) ?_
                            refine tw_iinc (q := 6) (x := (i : Int)) (y := (i : Int) + 1) (lv' := [(4, .int (enc ((i : Int) + 1))), (6, .int (enc (M 0 (i : Int)))), (5, .int (enc ((len M (i : Int)) + (mn (f3 (M 0 (i : Int))) (f3 (M 1 (i : Int))))))), (0, .ref (q 0)), (1, .int (enc (g))), (2, .int (enc (if ob = false then 1 else 0))), (3, .int (enc (g3)))]) X dX5_measure_178 rfl rfl (by decide) rfl ?_
                            refine tw_goto (tgt := 45) X dX5_measure_181 (by decide) ?_
                            refine Tsub (lv' := [(0, .ref (q 0)), (1, .int (enc (g))), (2, .int (enc (if ob = false then 1 else 0))), (3, .int (enc (g3))), (4, .int (enc ((i : Int) + 1)))]) [3, 4, 5, 6, 0] rfl ?_
                            refine Teq (ws' := wP cy q M th kept (f3)) (lv' := [(0, .ref (q 0)), (1, .int (enc (g))), (2, .int (enc (if ob = false then 1 else 0))), (3, .int (enc ((g3)))), (4, .int (enc (((i + 1 : Nat) : Int))))]) (st' := []) (rfl) (lvk (lvk (lvk (lvk (lvc (i_succ i) (rfl)))))) rfl (ih45 (i + 1) (f3) (g3) (by omega) (by omega) (hNF) (hNg) (hNs) (hNd))
                      · skip
                        have c64 := b01.mp c64
                        have hnu : ∀ z : usable M ob (i : Int), False := fun z => c64 (z.2.2 hob)
                        have hNF := hF3
                        have hNg := hg3
                        have hNs : g3 = 0 → f3 = f2 ∧ BS M ob f2 ((i + 1 : Nat) : Int) := fun z => ⟨(hs3 z).1, fun r hu hr => by by_cases e : r = (i : Int); exact (hnu (by rw [← e]; exact hu)).elim; exact (hs3 z).2 r hu (by omega)⟩
                        have hNd := hd3
                        refine tw_goto (tgt := 178) X dX5_measure_67 (by decide) ?_
                        refine tw_iinc (q := 4) (x := (i : Int)) (y := (i : Int) + 1) (lv' := [(4, .int (enc ((i : Int) + 1))), (0, .ref (q 0)), (1, .int (enc (g))), (2, .int (enc (if ob = false then 1 else 0))), (3, .int (enc (g3)))]) X dX5_measure_178 rfl rfl (by decide) rfl ?_
                        refine tw_goto (tgt := 45) X dX5_measure_181 (by decide) ?_
                        refine Tsub (lv' := [(0, .ref (q 0)), (1, .int (enc (g))), (2, .int (enc (if ob = false then 1 else 0))), (3, .int (enc (g3))), (4, .int (enc ((i : Int) + 1)))]) [1, 2, 3, 4, 0] rfl ?_
                        refine Teq (ws' := wP cy q M th kept (f3)) (lv' := [(0, .ref (q 0)), (1, .int (enc (g))), (2, .int (enc (if ob = false then 1 else 0))), (3, .int (enc ((g3)))), (4, .int (enc (((i + 1 : Nat) : Int))))]) (st' := []) (rfl) (lvk (lvk (lvk (lvk (lvc (i_succ i) (rfl)))))) rfl (ih45 (i + 1) (f3) (g3) (by omega) (by omega) (hNF) (hNg) (hNs) (hNd))
              refine Tsub (lv' := [(0, .ref (q 0)), (1, .int (enc (g))), (2, .int (enc (if ob = false then 1 else 0))), (3, .int (enc (0))), (4, .int (enc (0)))]) [2, 3, 4, 1, 0] rfl ?_
              refine Teq (ws' := wP cy q M th kept (f2)) (lv' := [(0, .ref (q 0)), (1, .int (enc (g))), (2, .int (enc (if ob = false then 1 else 0))), (3, .int (enc ((0)))), (4, .int (enc (((0 : Nat) : Int))))]) (st' := []) (rfl) (rfl) rfl (L45 (M 16 0 + 1).toNat 0 (f2) (0) (by omega) (by omega) (hF2) (Or.inl rfl) (fun _ => ⟨rfl, fun r hu hr => absurd hu.1 (by omega)⟩) (fun z => absurd z (by decide)))
        refine Tsub (lv' := [(0, .ref (q 0)), (1, .int (enc (g))), (2, .int (enc (if ob = false then 1 else 0))), (3, .int (enc (1)))]) [1, 2, 3, 0] rfl ?_
        refine Teq (ws' := wP cy q M th kept (f1)) (lv' := [(0, .ref (q 0)), (1, .int (enc (g))), (2, .int (enc (if ob = false then 1 else 0))), (3, .int (enc ((1))))]) (st' := []) (rfl) (rfl) rfl (L36 ((sumF (f1) (M 19 0).toNat + (1)) + 1).toNat (f1) (1) (by have := sumF_lo (f := f1) (M 19 0).toNat (fun c c0 c1 => (hF0.1 c c0 (by omega)).1); omega) (hF0) (Or.inr rfl) (fun z => absurd z (by decide)))
      · skip
        refine tw_aload_n X dX5_measure_10 0 rfl rfl ?_
        refine gf_X5_37 X (v := .ref (q 10)) 0 rfl rfl dX5_measure_11 ?_
        refine tw_iload_n X dX5_measure_14 3 rfl rfl ?_
        refine tw_iload_n X dX5_measure_15 3 rfl rfl ?_
        refine tw_iload_n X dX5_measure_16 1 rfl rfl ?_
        refine tw_icmp_ne (tgt := 24) X (In_of (by omega) (by omega)) (In_of (by omega) (by omega)) dX5_measure_17 (by decide) (fun c17 => ?_) (fun c17 => ?_)
        · skip
          refine tw_sipush X dX5_measure_24 (by decide) ?_
          refine tw_iast X (N := 10) (f := f1) (ws' := wP cy q M th kept (ups f1 ((i : Int)) (9999))) 10 rfl (by decide) (by omega) dX5_measure_27 rfl ?_
          refine tw_iinc (q := 3) (x := (i : Int)) (y := (i : Int) + 1) (lv' := [(3, .int (enc ((i : Int) + 1))), (0, .ref (q 0)), (1, .int (enc (g))), (2, .int (enc (if ob = false then 1 else 0)))]) X dX5_measure_28 rfl rfl (by decide) rfl ?_
          refine tw_goto (tgt := 2) X dX5_measure_31 (by decide) ?_
          refine Tsub (lv' := [(0, .ref (q 0)), (1, .int (enc (g))), (2, .int (enc (if ob = false then 1 else 0))), (3, .int (enc ((i : Int) + 1)))]) [1, 2, 3, 0] rfl ?_
          refine Teq (ws' := wP cy q M th kept ((ups f1 ((i : Int)) (9999)))) (lv' := [(0, .ref (q 0)), (1, .int (enc (g))), (2, .int (enc (if ob = false then 1 else 0))), (3, .int (enc (((i + 1 : Nat) : Int))))]) (st' := []) (rfl) (lvk (lvk (lvk (lvc (i_succ i) (rfl))))) rfl (ih2 (i + 1) ((ups f1 ((i : Int)) (9999))) (by omega) (by omega) (fun c c0 c1 => by unfold ups; by_cases e : c = (i : Int); (rw [if_pos e]; first | rw [if_pos (by omega)] | rw [if_neg (by omega)]); (rw [if_neg e]; exact hI c c0 (by omega))))
        · skip
          refine tw_iconst X dX5_measure_20 ?_
          refine tw_goto (tgt := 27) X dX5_measure_21 (by decide) ?_
          refine tw_iast X (N := 10) (f := f1) (ws' := wP cy q M th kept (ups f1 ((i : Int)) (0))) 10 rfl (by decide) (by omega) dX5_measure_27 rfl ?_
          refine tw_iinc (q := 3) (x := (i : Int)) (y := (i : Int) + 1) (lv' := [(3, .int (enc ((i : Int) + 1))), (0, .ref (q 0)), (1, .int (enc (g))), (2, .int (enc (if ob = false then 1 else 0)))]) X dX5_measure_28 rfl rfl (by decide) rfl ?_
          refine tw_goto (tgt := 2) X dX5_measure_31 (by decide) ?_
          refine Tsub (lv' := [(0, .ref (q 0)), (1, .int (enc (g))), (2, .int (enc (if ob = false then 1 else 0))), (3, .int (enc ((i : Int) + 1)))]) [1, 2, 3, 0] rfl ?_
          refine Teq (ws' := wP cy q M th kept ((ups f1 ((i : Int)) (0)))) (lv' := [(0, .ref (q 0)), (1, .int (enc (g))), (2, .int (enc (if ob = false then 1 else 0))), (3, .int (enc (((i + 1 : Nat) : Int))))]) (st' := []) (rfl) (lvk (lvk (lvk (lvc (i_succ i) (rfl))))) rfl (ih2 (i + 1) ((ups f1 ((i : Int)) (0))) (by omega) (by omega) (fun c c0 c1 => by unfold ups; by_cases e : c = (i : Int); (rw [if_pos e]; first | rw [if_pos (by omega)] | rw [if_neg (by omega)]); (rw [if_neg e]; exact hI c c0 (by omega))))
  refine Tsub (lv' := [(0, .ref (q 0)), (1, .int (enc (g))), (2, .int (enc (if ob = false then 1 else 0))), (3, .int (enc (0)))]) [1, 2, 3, 0] rfl ?_
  refine Teq (ws' := wP cy q M th kept (far)) (lv' := [(0, .ref (q 0)), (1, .int (enc (g))), (2, .int (enc (if ob = false then 1 else 0))), (3, .int (enc (((0 : Nat) : Int))))]) (st' := []) (rfl) (rfl) rfl (L2 (M 19 0 + 1).toNat 0 (far) (by omega) (by omega) (fun c c0 c1 => absurd c1 (by omega)))
