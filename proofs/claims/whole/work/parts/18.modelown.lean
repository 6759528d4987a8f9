/-! THE MODEL: its other methods -/
theorem dn_In {M : MT} (hB : Bd M) (t : Int) : In (dnM M t) := by
  have a := hB 13 t
  have b := hB 15 t
  unfold dnM
  split <;> exact In_of (by omega) (by omega)
def FX (N M : MT) : Prop := ∀ k : Nat, (k < 4 ∨ k = 11 ∨ k = 13 ∨ k = 14 ∨ k = 16 ∨ k = 17 ∨ k = 19) → N k = M k
theorem wM_fx (cy : ClassId) (q : Nat → Nat) {N M : MT} (h : FX N M) (w : Int → Int) (th : Int) (kept far : Int → Int) : wM cy q N w th kept far = wM cy q M w th kept far := by
  unfold wM
  rw [h 0 (by omega), h 1 (by omega), h 2 (by omega), h 3 (by omega), h 11 (by omega), h 13 (by omega), h 14 (by omega), h 16 (by omega), h 17 (by omega), h 19 (by omega)]
theorem FX.hours (M : MT) (n : Nat) : FX (hoursM M n) M := fun _ q => hoursM_fix M q n
theorem FX.hours2 (M : MT) (r v : Int) (n : Nat) : FX (hoursM (up M 6 r v) n) M := fun k q => (hoursM_fix _ q n).trans (up_n M (by omega) r v)
theorem frA_fore (M : MT) (m : Int) (h : Nat) : frA (hoursM (startF M m) h) (hoursM (startF M m) h 20 0) (hoursM (startF M m) h 17 0).toNat = foreA M m h (M 20 0 + h) := by
  unfold foreA
  rw [hoursM_20, hoursM_fix _ (k := 17) (by omega), startF_fix M m (k := 20) (by omega), startF_fix M m (k := 17) (by omega)]
theorem frI_fore (M : MT) (h : Nat) : frI (hoursM M h) (hoursM M h 17 0).toNat = foreI M h := by
  unfold foreI
  rw [hoursM_fix _ (k := 17) (by omega)]
theorem mostW_or {M : MT} (h4 : ∀ r : Int, 0 ≤ M 4 r) : ∀ i : Nat, ((mostW M i).1 = -1 ∧ (mostW M i).2 = -1) ∨ (0 ≤ (mostW M i).1 ∧ (mostW M i).1 < i ∧ (mostW M i).2 = M 4 (mostW M i).1)
  | 0 => Or.inl ⟨rfl, rfl⟩
  | i + 1 => by
    have ih := mostW_or h4 i
    by_cases h : M 6 i = 0 ∧ (mostW M i).2 < M 4 i
    · rw [mostW_y h.1 h.2]
      exact Or.inr ⟨by show (0 : Int) ≤ i; omega, by show (i : Int) < ((i + 1 : Nat) : Int); omega, rfl⟩
    · rw [mostW_n (by omega)]
      rcases ih with z | z
      · exact Or.inl z
      · exact Or.inr ⟨z.1, by omega, z.2.2⟩
def kR (M : MT) (r : Int) : Int := if 0 ≤ r ∧ r ≤ M 16 0 - 1 then 0 else 1
def kT (M : MT) (t : Int) : Int := if 0 ≤ t ∧ t ≤ M 17 0 - 1 then 0 else 1
def kC (M : MT) (a b : Int) : Int := if (0 ≤ a ∧ a ≤ M 19 0 - 1) ∧ 0 ≤ b ∧ b ≤ M 19 0 - 1 then 0 else 1
def kAC (M : MT) : Int := if M 19 0 = 10 then 1 else 0
def kAR (M : MT) (a b l d : Int) : Int := if kC M a b = 1 then 1 else if a = b ∨ ¬ (1 ≤ l ∧ l ≤ 9) ∨ ¬ (0 ≤ d ∧ d ≤ 3) then 2 else if M 16 0 = 20 then 3 else 0
noncomputable def kAT (M : MT) (a b : Int) : Int := if kC M a b = 1 then 1 else if a = b then 2 else if M 17 0 = 12 ∨ dO M false a b = -1 then 3 else 0
def kM (M : MT) (r h : Int) : Int := if kR M r = 1 then 1 else if ¬ (1 ≤ h ∧ h ≤ 20) then 2 else if M 6 r = 0 then 0 else 3
def kX (M : MT) (r : Int) : Int := if kR M r = 1 then 1 else if M 6 r ≠ 0 ∨ 0 < onR M r (M 17 0).toNat then 2 else 0
def kP (h : Int) : Int := if 1 ≤ h ∧ h ≤ 50 then 0 else 1
theorem kC_y {M : MT} {a b : Int} (h : 0 ≤ a ∧ a ≤ M 19 0 - 1) (h2 : 0 ≤ b ∧ b ≤ M 19 0 - 1) : kC M a b = 0 := if_pos ⟨h, h2⟩
theorem kC_n {M : MT} {a b : Int} (h : ¬ (0 ≤ a ∧ a ≤ M 19 0 - 1) ∨ ¬ (0 ≤ b ∧ b ≤ M 19 0 - 1)) : kC M a b = 1 := if_neg (fun z => by omega)
set_option maxRecDepth 100000 in
set_option maxHeartbeats 4000000 in
theorem m_X5_thrown {G : va_G} {cy : ClassId} {q : Nat → Nat} (M : MT) (th : Int) (kept far : Int → Int) : Ct G cy yX5_thrown cX5_thrown 1 (some .int) ({ frames := 0, cells := 0, slots := 0, locals := 0 } : Room) 0 0 [.ref (q 0)] (wP cy q M th kept far) (fun v w1 => v = some (.int (enc th)) ∧ w1 = wP cy q M th kept far) := by
  refine Ct.ofI (by decide) (Nat.le_of_ble_eq_true rfl) rfl rfl (fun _ _ _ => rfl) ?_
  intro c X ret
  refine Tlv (lv' := [(0, .ref (q 0))]) rfl ?_
  refine tw_aload_n X dX5_thrown_0 0 rfl rfl ?_
  refine gf_X5_40 X (v := .int (enc (th))) 0 rfl rfl dX5_thrown_1 ?_
  exact ret _ _ _ _ dX5_thrown_4 ⟨rfl, rfl⟩
set_option maxRecDepth 100000 in
set_option maxHeartbeats 4000000 in
theorem m_X5_told {G : va_G} {cy : ClassId} {q : Nat → Nat} (M : MT) (th : Int) (kept far : Int → Int) (x : Int) : Ct G cy yX5_told cX5_told 2 (some .int) ({ frames := 0, cells := 0, slots := 0, locals := 0 } : Room) 0 0 [.ref (q 0), .int (enc (x))] (wP cy q M th kept far) (fun v w1 => v = some (.int (enc x)) ∧ w1 = wP cy q M 0 kept far) := by
  refine Ct.ofI (by decide) (Nat.le_of_ble_eq_true rfl) rfl rfl (fun _ _ _ => rfl) ?_
  intro c X ret
  refine Tlv (lv' := [(0, .ref (q 0)), (1, .int (enc (x)))]) rfl ?_
  refine tw_aload_n X dX5_told_0 0 rfl rfl ?_
  refine tw_iconst X dX5_told_1 ?_
  refine pf_X5_40 X (ws' := wP cy q M (0) kept far) 0 rfl (Nat.le_of_ble_eq_true rfl) rfl rfl dX5_told_2 rfl ?_
  refine tw_iload_n X dX5_told_5 1 rfl rfl ?_
  exact ret _ _ _ _ dX5_told_6 ⟨rfl, rfl⟩
set_option maxRecDepth 100000 in
set_option maxHeartbeats 4000000 in
theorem m_X5_fail {G : va_G} {cy : ClassId} {q : Nat → Nat} (M : MT) (th : Int) (kept far : Int → Int) (x : Int) : Ct G cy yX5_fail cX5_fail 2 (some .int) ({ frames := 0, cells := 0, slots := 0, locals := 0 } : Room) 0 0 [.ref (q 0), .int (enc (x))] (wP cy q M th kept far) (fun v w1 => v = some (.int (enc 0)) ∧ w1 = wP cy q M x kept far) := by
  refine Ct.ofI (by decide) (Nat.le_of_ble_eq_true rfl) rfl rfl (fun _ _ _ => rfl) ?_
  intro c X ret
  refine Tlv (lv' := [(0, .ref (q 0)), (1, .int (enc (x)))]) rfl ?_
  refine tw_aload_n X dX5_fail_0 0 rfl rfl ?_
  refine tw_iload_n X dX5_fail_1 1 rfl rfl ?_
  refine pf_X5_40 X (ws' := wP cy q M (x) kept far) 0 rfl (Nat.le_of_ble_eq_true rfl) rfl rfl dX5_fail_2 rfl ?_
  refine tw_iconst X dX5_fail_5 ?_
  exact ret _ _ _ _ dX5_fail_6 ⟨rfl, rfl⟩
set_option maxRecDepth 100000 in
set_option maxHeartbeats 4000000 in
theorem m_X5_isCrossing {G : va_G} {cy : ClassId} {q : Nat → Nat} (M : MT) (th : Int) (kept far : Int → Int) (x : Int) (hx : In x) (hB : Bd M) : Ct G cy yX5_isCrossing cX5_isCrossing 2 (some .boolean) ({ frames := 1, cells := 0, slots := 0, locals := 22 } : Room) 0 0 [.ref (q 0), .int (enc (x))] (wP cy q M th kept far) (fun v w1 => v = some (.int (enc (if 0 ≤ x ∧ x ≤ M 19 0 - 1 then 1 else 0))) ∧ w1 = wP cy q M th kept far) := by
  refine Ct.ofI (by decide) (Nat.le_of_ble_eq_true rfl) rfl rfl (fun x w1 h => by obtain ⟨h1, -⟩ := h; cases h1; exact nar_b) ?_
  intro c X ret
  refine Tlv (lv' := [(0, .ref (q 0)), (1, .int (enc (x)))]) rfl ?_
  refine tw_iload_n X dX5_isCrossing_0 1 rfl rfl ?_
  refine tw_iconst X dX5_isCrossing_1 ?_
  refine tw_aload_n X dX5_isCrossing_2 0 rfl rfl ?_
  refine gf_X5_44 X (v := .int (enc (M 19 0))) 0 rfl rfl dX5_isCrossing_3 ?_
  have b1 := hB 19 0
  refine tw_iconst X dX5_isCrossing_6 ?_
  refine tw_isub (z := (M 19 0) - 1) X dX5_isCrossing_7 rfl ?_
  refine tw_callS X (As := [.int (enc (x)), .int (enc (0)), .int (enc ((M 19 0) - 1))]) (st := []) sw_X5_47 (m_X5_isIn (x) (0) ((M 19 0) - 1) hx (In_of (by decide) (by decide)) (In_of (by omega) (by omega))) ([]) (wP cy q M th kept far) rfl rfl rfl ⟨rfl, rfl, Nat.le_of_ble_eq_true rfl, Nat.le_of_ble_eq_true rfl⟩ ⟨Nat.le_of_ble_eq_true rfl, Nat.le_of_ble_eq_true rfl⟩ (Nat.le_of_ble_eq_true rfl) dX5_isCrossing_8 (fun v w1 hp => ?_)
  obtain ⟨rfl, rfl⟩ := hp
  refine Teq (ws' := wP cy q M th kept far) (lv' := [(0, .ref (q 0)), (1, .int (enc (x)))]) (st' := [.int (enc (if 0 ≤ x ∧ x ≤ ((M 19 0) - 1) then 1 else 0))]) rfl rfl rfl ?_
  exact ret _ _ _ _ dX5_isCrossing_11 ⟨rfl, rfl⟩
set_option maxRecDepth 100000 in
set_option maxHeartbeats 4000000 in
theorem m_X5_isRoad {G : va_G} {cy : ClassId} {q : Nat → Nat} (M : MT) (th : Int) (kept far : Int → Int) (x : Int) (hx : In x) (hB : Bd M) : Ct G cy yX5_isRoad cX5_isRoad 2 (some .boolean) ({ frames := 1, cells := 0, slots := 0, locals := 22 } : Room) 0 0 [.ref (q 0), .int (enc (x))] (wP cy q M th kept far) (fun v w1 => v = some (.int (enc (if 0 ≤ x ∧ x ≤ M 16 0 - 1 then 1 else 0))) ∧ w1 = wP cy q M th kept far) := by
  refine Ct.ofI (by decide) (Nat.le_of_ble_eq_true rfl) rfl rfl (fun x w1 h => by obtain ⟨h1, -⟩ := h; cases h1; exact nar_b) ?_
  intro c X ret
  refine Tlv (lv' := [(0, .ref (q 0)), (1, .int (enc (x)))]) rfl ?_
  refine tw_iload_n X dX5_isRoad_0 1 rfl rfl ?_
  refine tw_iconst X dX5_isRoad_1 ?_
  refine tw_aload_n X dX5_isRoad_2 0 rfl rfl ?_
  refine gf_X5_51 X (v := .int (enc (M 16 0))) 0 rfl rfl dX5_isRoad_3 ?_
  have b1 := hB 16 0
  refine tw_iconst X dX5_isRoad_6 ?_
  refine tw_isub (z := (M 16 0) - 1) X dX5_isRoad_7 rfl ?_
  refine tw_callS X (As := [.int (enc (x)), .int (enc (0)), .int (enc ((M 16 0) - 1))]) (st := []) sw_X5_47 (m_X5_isIn (x) (0) ((M 16 0) - 1) hx (In_of (by decide) (by decide)) (In_of (by omega) (by omega))) ([]) (wP cy q M th kept far) rfl rfl rfl ⟨rfl, rfl, Nat.le_of_ble_eq_true rfl, Nat.le_of_ble_eq_true rfl⟩ ⟨Nat.le_of_ble_eq_true rfl, Nat.le_of_ble_eq_true rfl⟩ (Nat.le_of_ble_eq_true rfl) dX5_isRoad_8 (fun v w1 hp => ?_)
  obtain ⟨rfl, rfl⟩ := hp
  refine Teq (ws' := wP cy q M th kept far) (lv' := [(0, .ref (q 0)), (1, .int (enc (x)))]) (st' := [.int (enc (if 0 ≤ x ∧ x ≤ ((M 16 0) - 1) then 1 else 0))]) rfl rfl rfl ?_
  exact ret _ _ _ _ dX5_isRoad_11 ⟨rfl, rfl⟩
set_option maxRecDepth 100000 in
set_option maxHeartbeats 4000000 in
theorem m_X5_isTourist {G : va_G} {cy : ClassId} {q : Nat → Nat} (M : MT) (th : Int) (kept far : Int → Int) (x : Int) (hx : In x) (hB : Bd M) : Ct G cy yX5_isTourist cX5_isTourist 2 (some .boolean) ({ frames := 1, cells := 0, slots := 0, locals := 22 } : Room) 0 0 [.ref (q 0), .int (enc (x))] (wP cy q M th kept far) (fun v w1 => v = some (.int (enc (if 0 ≤ x ∧ x ≤ M 17 0 - 1 then 1 else 0))) ∧ w1 = wP cy q M th kept far) := by
  refine Ct.ofI (by decide) (Nat.le_of_ble_eq_true rfl) rfl rfl (fun x w1 h => by obtain ⟨h1, -⟩ := h; cases h1; exact nar_b) ?_
  intro c X ret
  refine Tlv (lv' := [(0, .ref (q 0)), (1, .int (enc (x)))]) rfl ?_
  refine tw_iload_n X dX5_isTourist_0 1 rfl rfl ?_
  refine tw_iconst X dX5_isTourist_1 ?_
  refine tw_aload_n X dX5_isTourist_2 0 rfl rfl ?_
  refine gf_X5_54 X (v := .int (enc (M 17 0))) 0 rfl rfl dX5_isTourist_3 ?_
  have b1 := hB 17 0
  refine tw_iconst X dX5_isTourist_6 ?_
  refine tw_isub (z := (M 17 0) - 1) X dX5_isTourist_7 rfl ?_
  refine tw_callS X (As := [.int (enc (x)), .int (enc (0)), .int (enc ((M 17 0) - 1))]) (st := []) sw_X5_47 (m_X5_isIn (x) (0) ((M 17 0) - 1) hx (In_of (by decide) (by decide)) (In_of (by omega) (by omega))) ([]) (wP cy q M th kept far) rfl rfl rfl ⟨rfl, rfl, Nat.le_of_ble_eq_true rfl, Nat.le_of_ble_eq_true rfl⟩ ⟨Nat.le_of_ble_eq_true rfl, Nat.le_of_ble_eq_true rfl⟩ (Nat.le_of_ble_eq_true rfl) dX5_isTourist_8 (fun v w1 hp => ?_)
  obtain ⟨rfl, rfl⟩ := hp
  refine Teq (ws' := wP cy q M th kept far) (lv' := [(0, .ref (q 0)), (1, .int (enc (x)))]) (st' := [.int (enc (if 0 ≤ x ∧ x ≤ ((M 17 0) - 1) then 1 else 0))]) rfl rfl rfl ?_
  exact ret _ _ _ _ dX5_isTourist_11 ⟨rfl, rfl⟩
set_option maxRecDepth 100000 in
set_option maxHeartbeats 4000000 in
theorem m_X5_keep {G : va_G} {cy : ClassId} {q : Nat → Nat} (M : MT) (th : Int) (kept far : Int → Int) : Ct G cy yX5_keep cX5_keep 1 none ({ frames := 1, cells := 0, slots := 0, locals := 48 } : Room) 0 0 [.ref (q 0)] (wP cy q M th kept far) (fun v w1 => v = none ∧ w1 = wP cy q M th (pack M) far) := by
  refine Ct.ofV (by decide) (Nat.le_of_ble_eq_true rfl) rfl rfl ?_
  intro c X ret
  refine Tlv (lv' := [(0, .ref (q 0))]) rfl ?_
  refine tw_aload_n X dX5_keep_0 0 rfl rfl ?_
  refine gf_X5_31 X (v := .ref (q 8)) 0 rfl rfl dX5_keep_1 ?_
  refine tw_iconst X dX5_keep_4 ?_
  refine tw_aload_n X dX5_keep_5 0 rfl rfl ?_
  refine gf_X5_34 X (v := .ref (q 9)) 0 rfl rfl dX5_keep_6 ?_
  refine tw_iconst X dX5_keep_9 ?_
  refine tw_sipush X dX5_keep_10 (by decide) ?_
  refine tw_copy X (N := 133) (f := (pack M)) (g := kept) (ws' := wP cy q M th (pack M) far) 8 9 wl_X5_57 wa_n wa_s wa_i rfl rfl rfl (by decide) (Nat.le_of_ble_eq_true rfl) (Nat.le_of_ble_eq_true rfl) dX5_keep_13 rfl ?_
  exact ret _ _ _ dX5_keep_16 ⟨rfl, rfl⟩
set_option maxRecDepth 100000 in
set_option maxHeartbeats 4000000 in
theorem m_X5_bringBack {G : va_G} {cy : ClassId} {q : Nat → Nat} (M : MT) (w : Int → Int) (th : Int) (kept far : Int → Int) : Ct G cy yX5_bringBack cX5_bringBack 1 none ({ frames := 1, cells := 0, slots := 0, locals := 48 } : Room) 0 0 [.ref (q 0)] (wM cy q M w th kept far) (fun v w1 => v = none ∧ w1 = wM cy q M kept th kept far) := by
  refine Ct.ofV (by decide) (Nat.le_of_ble_eq_true rfl) rfl rfl ?_
  intro c X ret
  refine Tlv (lv' := [(0, .ref (q 0))]) rfl ?_
  refine tw_aload_n X dX5_bringBack_0 0 rfl rfl ?_
  refine gf_X5_34 X (v := .ref (q 9)) 0 rfl rfl dX5_bringBack_1 ?_
  refine tw_iconst X dX5_bringBack_4 ?_
  refine tw_aload_n X dX5_bringBack_5 0 rfl rfl ?_
  refine gf_X5_31 X (v := .ref (q 8)) 0 rfl rfl dX5_bringBack_6 ?_
  refine tw_iconst X dX5_bringBack_9 ?_
  refine tw_sipush X dX5_bringBack_10 (by decide) ?_
  refine tw_copy X (N := 133) (f := kept) (g := w) (ws' := wM cy q M kept th kept far) 9 8 wl_X5_57 wa_n wa_s wa_i rfl rfl rfl (by decide) (Nat.le_of_ble_eq_true rfl) (Nat.le_of_ble_eq_true rfl) dX5_bringBack_13 rfl ?_
  exact ret _ _ _ dX5_bringBack_16 ⟨rfl, rfl⟩
theorem m_X5_bringBackP {G : va_G} {cy : ClassId} {q : Nat → Nat} (N M : MT) (th : Int) (far : Int → Int) (h : FX N M) : Ct G cy yX5_bringBack cX5_bringBack 1 none ({ frames := 1, cells := 0, slots := 0, locals := 48 } : Room) 0 0 [.ref (q 0)] (wP cy q N th (pack M) far) (fun v w1 => v = none ∧ w1 = wP cy q M th (pack M) far) := (m_X5_bringBack (q := q) N (pack N) th (pack M) far).weak (fun v w1 z => ⟨z.1, by rw [z.2]; exact wM_fx cy q h _ _ _ _⟩)
set_option maxRecDepth 100000 in
set_option maxHeartbeats 4000000 in
theorem m_X5_came {G : va_G} {cy : ClassId} {q : Nat → Nat} (M : MT) (th : Int) (kept far : Int → Int) (B : Int) (hF : WF M B) (hB2 : B ≤ 1000000) : Ct G cy yX5_came cX5_came 3 (some .int) ({ frames := 1, cells := 0, slots := 0, locals := 22 } : Room) 0 0 [.ref (q 0)] (wP cy q M th kept far) (fun v w1 => v = some (.int (enc (cntIn M (M 17 0).toNat))) ∧ w1 = wP cy q M th kept far) := by
  refine Ct.ofI (by decide) (Nat.le_of_ble_eq_true rfl) rfl rfl (fun _ _ _ => rfl) ?_
  intro c X ret
  have hB := hF.bd (by omega)
  obtain ⟨w0, w1, w2, w3, w4⟩ := hF.r
  have h17 := hF.2.2.2.2.2.1
  have h172 := hF.2.2.2.2.2.2.1
  have h20 := hF.2.2.2.2.2.2.2.1
  refine Tlv (lv' := [(0, .ref (q 0))]) rfl ?_
  refine tw_iconst X dX5_came_0 ?_
  refine tw_istore_n (lv' := [(1, .int (enc (0))), (0, .ref (q 0))]) X dX5_came_1 rfl (by decide) rfl ?_
  refine tw_iconst X dX5_came_2 ?_
  refine tw_istore_n (lv' := [(2, .int (enc (0))), (1, .int (enc (0))), (0, .ref (q 0))]) X dX5_came_3 rfl (by decide) rfl ?_
  have L4 : ∀ (fu i : Nat), (i : Int) ≤ M 17 0 → M 17 0 + 1 ≤ (i : Int) + fu → T G c ({ frames := 1, cells := 0, slots := 0, locals := 22 } : Room) 3 0 0 (wP cy q M th kept far) 4 [(0, .ref (q 0)), (1, .int (enc (cntIn M i))), (2, .int (enc ((i : Int))))] [] := by
    intro fu
    induction fu with
    | zero =>
      intro i  hi0 hi1
      exact absurd hi1 (by omega)
    | succ fu ih4 =>
      intro i  hi0_4 hi1_4 
      refine tw_iload_n X dX5_came_4 2 rfl rfl ?_
      refine tw_aload_n X dX5_came_5 0 rfl rfl ?_
      refine gf_X5_54 X (v := .int (enc (M 17 0))) 0 rfl rfl dX5_came_6 ?_
      have b1 := hB 17 0
      refine tw_icmp_ge (tgt := 36) X (In_of (by omega) (by omega)) (In_of (by omega) (by omega)) dX5_came_9 (by decide) (fun c9 => ?_) (fun c9 => ?_)
      · skip
        refine tw_iload_n X dX5_came_36 1 rfl rfl ?_
        exact ret _ _ _ _ dX5_came_37 ⟨by rw [show (M 17 0).toNat = i by omega], rfl⟩
      · skip
        refine tw_iload_n X dX5_came_12 1 rfl rfl ?_
        refine tw_aload_n X dX5_came_13 0 rfl rfl ?_
        refine tw_iload_n X dX5_came_14 2 rfl rfl ?_
        refine tw_iconst X dX5_came_15 ?_
        refine tw_callV X (As := [.int (enc ((i : Int))), .int (enc (4))]) (st := [.int (enc (cntIn M i))]) vw_X5_67 (m_X5_to_4 (q := q) M th kept far ((i : Int)) (by omega)) ([]) ([]) rfl rfl (q0 := 0) rfl rfl rfl ⟨rfl, rfl, Nat.le_of_ble_eq_true rfl, Nat.le_of_ble_eq_true rfl⟩ ⟨Nat.le_of_ble_eq_true rfl, Nat.le_of_ble_eq_true rfl⟩ (Nat.le_of_ble_eq_true rfl) dX5_came_16 (fun v w1 hp => ?_)
        obtain ⟨rfl, rfl⟩ := hp
        refine Teq (ws' := wP cy q M th kept far) (lv' := [(0, .ref (q 0)), (1, .int (enc (cntIn M i))), (2, .int (enc ((i : Int))))]) (st' := [.int (enc (dnM M (i : Int))), .int (enc (cntIn M i))]) rfl rfl rfl ?_
        refine tw_iconst X dX5_came_19 ?_
        have hTI := hF.2.2.2.2.2.2.2.2.2.1 (i : Int) (by omega) c9
        unfold TI at hTI
        have hdn := dn_no (M := M) (t := (i : Int)) (by omega)
        refine tw_icmp_eq (tgt := 27) X (dn_In hB _) (In_of (by omega) (by omega)) dX5_came_20 (by decide) (fun c20 => ?_) (fun c20 => ?_)
        · skip
          rw [hdn] at c20
          refine tw_iconst X dX5_came_27 ?_
          refine tw_iadd (z := (cntIn M i) + 0) X dX5_came_28 rfl ?_
          refine tw_istore_n (lv' := [(1, .int (enc ((cntIn M i) + 0))), (0, .ref (q 0)), (2, .int (enc ((i : Int))))]) X dX5_came_29 rfl (by decide) rfl ?_
          refine tw_iinc (q := 2) (x := (i : Int)) (y := (i : Int) + 1) (lv' := [(2, .int (enc ((i : Int) + 1))), (1, .int (enc ((cntIn M i) + 0))), (0, .ref (q 0))]) X dX5_came_30 rfl rfl (by decide) rfl ?_
          refine tw_goto (tgt := 4) X dX5_came_33 (by decide) ?_
          refine Tsub (lv' := [(0, .ref (q 0)), (1, .int (enc ((cntIn M i) + 0))), (2, .int (enc ((i : Int) + 1)))]) [2, 1, 0] rfl ?_
          refine Teq (ws' := wP cy q M th kept far) (lv' := [(0, .ref (q 0)), (1, .int (enc (cntIn M (i + 1)))), (2, .int (enc (((i + 1 : Nat) : Int))))]) (st' := []) (rfl) (lvk (lvc (by rw [cntIn_s]; first | rw [if_pos (by omega)] | rw [if_neg (by omega)]) (lvc (i_succ i) (rfl)))) rfl (ih4 (i + 1) (by omega) (by omega))
        · skip
          rw [ne_eq, hdn] at c20
          refine tw_iconst X dX5_came_23 ?_
          refine tw_goto (tgt := 28) X dX5_came_24 (by decide) ?_
          refine tw_iadd (z := (cntIn M i) + 1) X dX5_came_28 rfl ?_
          refine tw_istore_n (lv' := [(1, .int (enc ((cntIn M i) + 1))), (0, .ref (q 0)), (2, .int (enc ((i : Int))))]) X dX5_came_29 rfl (by decide) rfl ?_
          refine tw_iinc (q := 2) (x := (i : Int)) (y := (i : Int) + 1) (lv' := [(2, .int (enc ((i : Int) + 1))), (1, .int (enc ((cntIn M i) + 1))), (0, .ref (q 0))]) X dX5_came_30 rfl rfl (by decide) rfl ?_
          refine tw_goto (tgt := 4) X dX5_came_33 (by decide) ?_
          refine Tsub (lv' := [(0, .ref (q 0)), (1, .int (enc ((cntIn M i) + 1))), (2, .int (enc ((i : Int) + 1)))]) [2, 1, 0] rfl ?_
          refine Teq (ws' := wP cy q M th kept far) (lv' := [(0, .ref (q 0)), (1, .int (enc (cntIn M (i + 1)))), (2, .int (enc (((i + 1 : Nat) : Int))))]) (st' := []) (rfl) (lvk (lvc (by rw [cntIn_s]; first | rw [if_pos (by omega)] | rw [if_neg (by omega)]) (lvc (i_succ i) (rfl)))) rfl (ih4 (i + 1) (by omega) (by omega))
  refine Tsub (lv' := [(0, .ref (q 0)), (1, .int (enc (0))), (2, .int (enc (0)))]) [2, 1, 0] rfl ?_
  refine Teq (ws' := wP cy q M th kept far) (lv' := [(0, .ref (q 0)), (1, .int (enc (cntIn M 0))), (2, .int (enc (((0 : Nat) : Int))))]) (st' := []) (rfl) (rfl) rfl (L4 (M 17 0 + 1).toNat 0 (by omega) (by omega))
set_option maxRecDepth 100000 in
set_option maxHeartbeats 4000000 in
theorem m_X5_shut {G : va_G} {cy : ClassId} {q : Nat → Nat} (M : MT) (th : Int) (kept far : Int → Int) (B : Int) (hF : WF M B) (hB2 : B ≤ 800000) : Ct G cy yX5_shut cX5_shut 3 (some .int) ({ frames := 2, cells := 0, slots := 0, locals := 43 } : Room) 0 0 [.ref (q 0)] (wP cy q M th kept far) (fun v w1 => v = some (.int (enc (cntC M (M 16 0).toNat))) ∧ w1 = wP cy q M th kept far) := by
  refine Ct.ofI (by decide) (Nat.le_of_ble_eq_true rfl) rfl rfl (fun _ _ _ => rfl) ?_
  intro c X ret
  have hB := hF.bd (by omega)
  obtain ⟨w0, w1, w2, w3, w4⟩ := hF.r
  have h17 := hF.2.2.2.2.2.1
  have h172 := hF.2.2.2.2.2.2.1
  have h20 := hF.2.2.2.2.2.2.2.1
  refine Tlv (lv' := [(0, .ref (q 0))]) rfl ?_
  refine tw_iconst X dX5_shut_0 ?_
  refine tw_istore_n (lv' := [(1, .int (enc (0))), (0, .ref (q 0))]) X dX5_shut_1 rfl (by decide) rfl ?_
  refine tw_iconst X dX5_shut_2 ?_
  refine tw_istore_n (lv' := [(2, .int (enc (0))), (1, .int (enc (0))), (0, .ref (q 0))]) X dX5_shut_3 rfl (by decide) rfl ?_
  have L4 : ∀ (fu i : Nat), (i : Int) ≤ M 16 0 → M 16 0 + 1 ≤ (i : Int) + fu → T G c ({ frames := 2, cells := 0, slots := 0, locals := 43 } : Room) 3 0 0 (wP cy q M th kept far) 4 [(0, .ref (q 0)), (1, .int (enc (cntC M i))), (2, .int (enc ((i : Int))))] [] := by
    intro fu
    induction fu with
    | zero =>
      intro i  hi0 hi1
      exact absurd hi1 (by omega)
    | succ fu ih4 =>
      intro i  hi0_4 hi1_4 
      refine tw_iload_n X dX5_shut_4 2 rfl rfl ?_
      refine tw_aload_n X dX5_shut_5 0 rfl rfl ?_
      refine gf_X5_51 X (v := .int (enc (M 16 0))) 0 rfl rfl dX5_shut_6 ?_
      have b1 := hB 16 0
      refine tw_icmp_ge (tgt := 34) X (In_of (by omega) (by omega)) (In_of (by omega) (by omega)) dX5_shut_9 (by decide) (fun c9 => ?_) (fun c9 => ?_)
      · skip
        refine tw_iload_n X dX5_shut_34 1 rfl rfl ?_
        exact ret _ _ _ _ dX5_shut_35 ⟨by rw [show (M 16 0).toNat = i by omega], rfl⟩
      · skip
        refine tw_iload_n X dX5_shut_12 1 rfl rfl ?_
        refine tw_aload_n X dX5_shut_13 0 rfl rfl ?_
        refine tw_iload_n X dX5_shut_14 2 rfl rfl ?_
        refine tw_callV X (As := [.int (enc ((i : Int)))]) (st := [.int (enc (cntC M i))]) vw_X5_70 (m_X5_isOpen (q := q) M th kept far ((i : Int)) hB (by omega)) ([]) ([]) rfl rfl (q0 := 0) rfl rfl rfl ⟨rfl, rfl, Nat.le_of_ble_eq_true rfl, Nat.le_of_ble_eq_true rfl⟩ ⟨Nat.le_of_ble_eq_true rfl, Nat.le_of_ble_eq_true rfl⟩ (Nat.le_of_ble_eq_true rfl) dX5_shut_15 (fun v w1 hp => ?_)
        obtain ⟨rfl, rfl⟩ := hp
        refine Teq (ws' := wP cy q M th kept far) (lv' := [(0, .ref (q 0)), (1, .int (enc (cntC M i))), (2, .int (enc ((i : Int))))]) (st' := [.int (enc (if M 6 (i : Int) = 0 then 1 else 0)), .int (enc (cntC M i))]) rfl rfl rfl ?_
        refine tw_if_eq (tgt := 25) X In_b dX5_shut_18 (by decide) (fun c18 => ?_) (fun c18 => ?_)
        · skip
          have c18 := b01.mp c18
          refine tw_iconst X dX5_shut_25 ?_
          refine tw_iadd (z := (cntC M i) + 1) X dX5_shut_26 rfl ?_
          refine tw_istore_n (lv' := [(1, .int (enc ((cntC M i) + 1))), (0, .ref (q 0)), (2, .int (enc ((i : Int))))]) X dX5_shut_27 rfl (by decide) rfl ?_
          refine tw_iinc (q := 2) (x := (i : Int)) (y := (i : Int) + 1) (lv' := [(2, .int (enc ((i : Int) + 1))), (1, .int (enc ((cntC M i) + 1))), (0, .ref (q 0))]) X dX5_shut_28 rfl rfl (by decide) rfl ?_
          refine tw_goto (tgt := 4) X dX5_shut_31 (by decide) ?_
          refine Tsub (lv' := [(0, .ref (q 0)), (1, .int (enc ((cntC M i) + 1))), (2, .int (enc ((i : Int) + 1)))]) [2, 1, 0] rfl ?_
          refine Teq (ws' := wP cy q M th kept far) (lv' := [(0, .ref (q 0)), (1, .int (enc (cntC M (i + 1)))), (2, .int (enc (((i + 1 : Nat) : Int))))]) (st' := []) (rfl) (lvk (lvc (by rw [cntC_s]; have d6 := hF.2.2.2.1 (i : Int); first | rw [if_pos (by omega)] | rw [if_neg (by omega)]) (lvc (i_succ i) (rfl)))) rfl (ih4 (i + 1) (by omega) (by omega))
        · skip
          have c18 := b01n.mp c18
          refine tw_iconst X dX5_shut_21 ?_
          refine tw_goto (tgt := 26) X dX5_shut_22 (by decide) ?_
          refine tw_iadd (z := (cntC M i) + 0) X dX5_shut_26 rfl ?_
          refine tw_istore_n (lv' := [(1, .int (enc ((cntC M i) + 0))), (0, .ref (q 0)), (2, .int (enc ((i : Int))))]) X dX5_shut_27 rfl (by decide) rfl ?_
          refine tw_iinc (q := 2) (x := (i : Int)) (y := (i : Int) + 1) (lv' := [(2, .int (enc ((i : Int) + 1))), (1, .int (enc ((cntC M i) + 0))), (0, .ref (q 0))]) X dX5_shut_28 rfl rfl (by decide) rfl ?_
          refine tw_goto (tgt := 4) X dX5_shut_31 (by decide) ?_
          refine Tsub (lv' := [(0, .ref (q 0)), (1, .int (enc ((cntC M i) + 0))), (2, .int (enc ((i : Int) + 1)))]) [2, 1, 0] rfl ?_
          refine Teq (ws' := wP cy q M th kept far) (lv' := [(0, .ref (q 0)), (1, .int (enc (cntC M (i + 1)))), (2, .int (enc (((i + 1 : Nat) : Int))))]) (st' := []) (rfl) (lvk (lvc (by rw [cntC_s]; have d6 := hF.2.2.2.1 (i : Int); first | rw [if_pos (by omega)] | rw [if_neg (by omega)]) (lvc (i_succ i) (rfl)))) rfl (ih4 (i + 1) (by omega) (by omega))
  refine Tsub (lv' := [(0, .ref (q 0)), (1, .int (enc (0))), (2, .int (enc (0)))]) [2, 1, 0] rfl ?_
  refine Teq (ws' := wP cy q M th kept far) (lv' := [(0, .ref (q 0)), (1, .int (enc (cntC M 0))), (2, .int (enc (((0 : Nat) : Int))))]) (st' := []) (rfl) (rfl) rfl (L4 (M 16 0 + 1).toNat 0 (by omega) (by omega))
set_option maxRecDepth 100000 in
set_option maxHeartbeats 4000000 in
theorem m_X5_fray {G : va_G} {cy : ClassId} {q : Nat → Nat} (M : MT) (th : Int) (kept far : Int → Int) (t B : Int) (hF : WF M B) (hB2 : B ≤ 1000000) (ht : 0 ≤ t ∧ t < M 17 0) : Ct G cy yX5_fray cX5_fray 2 (some .int) ({ frames := 1, cells := 0, slots := 0, locals := 22 } : Room) 0 0 [.ref (q 0), .int (enc (t))] (wP cy q M th kept far) (fun v w1 => v = some (.int (enc (frayAt M t (M 20 0)))) ∧ w1 = wP cy q M th kept far) := by
  refine Ct.ofI (by decide) (Nat.le_of_ble_eq_true rfl) rfl rfl (fun _ _ _ => rfl) ?_
  intro c X ret
  have hB := hF.bd (by omega)
  obtain ⟨w0, w1, w2, w3, w4⟩ := hF.r
  have h17 := hF.2.2.2.2.2.1
  have h172 := hF.2.2.2.2.2.2.1
  have h20 := hF.2.2.2.2.2.2.2.1
  have hTI := hF.2.2.2.2.2.2.2.2.2.1 t ht.1 ht.2
  unfold TI at hTI
  have hdn := dn_no (M := M) (t := t) (by omega)
  have hd0 : dnM M t = if M 15 t < 0 then -1 else M 13 t + M 15 t := rfl
  have b15 := hB 15 t
  have b20 := hB 20 0
  have b13 := hB 13 t
  refine Tlv (lv' := [(0, .ref (q 0)), (1, .int (enc (t)))]) rfl ?_
  refine tw_iconst X dX5_fray_0 ?_
  refine tw_aload_n X dX5_fray_1 0 rfl rfl ?_
  refine tw_iload_n X dX5_fray_2 1 rfl rfl ?_
  refine tw_iconst X dX5_fray_3 ?_
  refine tw_callV X (As := [.int (enc (t)), .int (enc (4))]) (st := [.int (enc (0))]) vw_X5_67 (m_X5_to_4 (q := q) M th kept far (t) (by omega)) ([]) ([]) rfl rfl (q0 := 0) rfl rfl rfl ⟨rfl, rfl, Nat.le_of_ble_eq_true rfl, Nat.le_of_ble_eq_true rfl⟩ ⟨Nat.le_of_ble_eq_true rfl, Nat.le_of_ble_eq_true rfl⟩ (Nat.le_of_ble_eq_true rfl) dX5_fray_4 (fun v w1 hp => ?_)
  obtain ⟨rfl, rfl⟩ := hp
  refine Teq (ws' := wP cy q M th kept far) (lv' := [(0, .ref (q 0)), (1, .int (enc (t)))]) (st' := [.int (enc (dnM M t)), .int (enc (0))]) rfl rfl rfl ?_
  refine tw_iconst X dX5_fray_7 ?_
  refine tw_icmp_ne (tgt := 20) X (dn_In hB _) (In_of (by omega) (by omega)) dX5_fray_8 (by decide) (fun c8 => ?_) (fun c8 => ?_)
  · skip
    rw [ne_eq, hdn] at c8
    rw [if_neg c8] at hd0
    refine tw_aload_n X dX5_fray_20 0 rfl rfl ?_
    refine tw_iload_n X dX5_fray_21 1 rfl rfl ?_
    refine tw_iconst X dX5_fray_22 ?_
    refine tw_callV X (As := [.int (enc (t)), .int (enc (4))]) (st := [.int (enc (0))]) vw_X5_67 (m_X5_to_4 (q := q) M th kept far (t) (by omega)) ([]) ([]) rfl rfl (q0 := 0) rfl rfl rfl ⟨rfl, rfl, Nat.le_of_ble_eq_true rfl, Nat.le_of_ble_eq_true rfl⟩ ⟨Nat.le_of_ble_eq_true rfl, Nat.le_of_ble_eq_true rfl⟩ (Nat.le_of_ble_eq_true rfl) dX5_fray_23 (fun v w1 hp => ?_)
    obtain ⟨rfl, rfl⟩ := hp
    refine Teq (ws' := wP cy q M th kept far) (lv' := [(0, .ref (q 0)), (1, .int (enc (t)))]) (st' := [.int (enc (dnM M t)), .int (enc (0))]) rfl rfl rfl ?_
    refine Tst (st' := [.int (enc (M 13 t + M 15 t)), .int (enc (0))]) (by rw [hd0]) ?_
    refine tw_aload_n X dX5_fray_26 0 rfl rfl ?_
    refine gf_X5_25 X (v := .ref (q 6)) 0 rfl rfl dX5_fray_27 ?_
    refine tw_iload_n X dX5_fray_30 1 rfl rfl ?_
    refine tw_iald X (N := 12) (f := (M 13)) 6 rfl (by decide) (by omega) dX5_fray_31 ?_
    refine Tst (st' := [.int (enc (M 13 t)), .int (enc (M 13 t + M 15 t)), .int (enc (0))]) rfl ?_
    have b1 := hB 13 t
    refine tw_isub (z := (M 13 t + M 15 t) - (M 13 t)) X dX5_fray_32 rfl ?_
    refine tw_aload_n X dX5_fray_33 0 rfl rfl ?_
    refine gf_X5_28 X (v := .ref (q 7)) 0 rfl rfl dX5_fray_34 ?_
    refine tw_iload_n X dX5_fray_37 1 rfl rfl ?_
    refine tw_iald X (N := 12) (f := (M 14)) 7 rfl (by decide) (by omega) dX5_fray_38 ?_
    refine Tst (st' := [.int (enc (M 14 t)), .int (enc ((M 13 t + M 15 t) - (M 13 t))), .int (enc (0))]) rfl ?_
    have b2 := hB 14 t
    refine tw_isub (z := ((M 13 t + M 15 t) - (M 13 t)) - (M 14 t)) X dX5_fray_39 rfl ?_
    refine tw_max (z := frayAt M t (M 20 0)) X (In_of (by omega) (by omega)) (In_of (by omega) (by omega)) wl_X5_142 wm_max_s wm_i wm_max_c (Nat.le_of_ble_eq_true rfl) (Nat.le_of_ble_eq_true rfl) ⟨Nat.le_of_ble_eq_true rfl, Nat.le_of_ble_eq_true rfl⟩ dX5_fray_40 (by unfold frayAt mx0; first | rw [if_pos (show 0 ≤ M 15 t by omega), show M 13 t + M 15 t - M 13 t - M 14 t = M 15 t - M 14 t by omega] | rw [if_neg (show ¬ 0 ≤ M 15 t by omega)]) ?_
    exact ret _ _ _ _ dX5_fray_43 ⟨rfl, rfl⟩
  · skip
    rw [hdn] at c8
    refine tw_aload_n X dX5_fray_11 0 rfl rfl ?_
    refine gf_X5_31 X (v := .ref (q 8)) 0 rfl rfl dX5_fray_12 ?_
    refine tw_iconst X dX5_fray_15 ?_
    refine tw_iald X (N := 133) (f := (pack M)) 8 rfl (by decide) (by omega) dX5_fray_16 ?_
    refine Tst (st' := [.int (enc (M 20 0)), .int (enc (0))]) rfl ?_
    have b3 := hB 20 0
    refine tw_goto (tgt := 26) X dX5_fray_17 (by decide) ?_
    refine tw_aload_n X dX5_fray_26 0 rfl rfl ?_
    refine gf_X5_25 X (v := .ref (q 6)) 0 rfl rfl dX5_fray_27 ?_
    refine tw_iload_n X dX5_fray_30 1 rfl rfl ?_
    refine tw_iald X (N := 12) (f := (M 13)) 6 rfl (by decide) (by omega) dX5_fray_31 ?_
    refine Tst (st' := [.int (enc (M 13 t)), .int (enc (M 20 0)), .int (enc (0))]) rfl ?_
    have b4 := hB 13 t
    refine tw_isub (z := (M 20 0) - (M 13 t)) X dX5_fray_32 rfl ?_
    refine tw_aload_n X dX5_fray_33 0 rfl rfl ?_
    refine gf_X5_28 X (v := .ref (q 7)) 0 rfl rfl dX5_fray_34 ?_
    refine tw_iload_n X dX5_fray_37 1 rfl rfl ?_
    refine tw_iald X (N := 12) (f := (M 14)) 7 rfl (by decide) (by omega) dX5_fray_38 ?_
    refine Tst (st' := [.int (enc (M 14 t)), .int (enc ((M 20 0) - (M 13 t))), .int (enc (0))]) rfl ?_
    have b5 := hB 14 t
    refine tw_isub (z := ((M 20 0) - (M 13 t)) - (M 14 t)) X dX5_fray_39 rfl ?_
    refine tw_max (z := frayAt M t (M 20 0)) X (In_of (by omega) (by omega)) (In_of (by omega) (by omega)) wl_X5_142 wm_max_s wm_i wm_max_c (Nat.le_of_ble_eq_true rfl) (Nat.le_of_ble_eq_true rfl) ⟨Nat.le_of_ble_eq_true rfl, Nat.le_of_ble_eq_true rfl⟩ dX5_fray_40 (by unfold frayAt mx0; first | rw [if_pos (show 0 ≤ M 15 t by omega), show M 13 t + M 15 t - M 13 t - M 14 t = M 15 t - M 14 t by omega] | rw [if_neg (show ¬ 0 ≤ M 15 t by omega)]) ?_
    exact ret _ _ _ _ dX5_fray_43 ⟨rfl, rfl⟩
set_option maxRecDepth 100000 in
set_option maxHeartbeats 4000000 in
theorem m_X5_frays_1 {G : va_G} {cy : ClassId} {q : Nat → Nat} (M : MT) (th : Int) (kept far : Int → Int) (B : Int) (hF : WF M B) (hB2 : B ≤ 1000000) : Ct G cy yX5_frays cX5_frays 4 (some .int) ({ frames := 2, cells := 0, slots := 0, locals := 43 } : Room) 0 0 [.ref (q 0), .int (enc (1))] (wP cy q M th kept far) (fun v w1 => v = some (.int (enc (frA M (M 20 0) (M 17 0).toNat))) ∧ w1 = wP cy q M th kept far) := by
  refine Ct.ofI (by decide) (Nat.le_of_ble_eq_true rfl) rfl rfl (fun _ _ _ => rfl) ?_
  intro c X ret
  have hB := hF.bd (by omega)
  obtain ⟨w0, w1, w2, w3, w4⟩ := hF.r
  have h17 := hF.2.2.2.2.2.1
  have h172 := hF.2.2.2.2.2.2.1
  have h20 := hF.2.2.2.2.2.2.2.1
  have b20 := hB 20 0
  refine Tlv (lv' := [(0, .ref (q 0)), (1, .int (enc (1)))]) rfl ?_
  refine tw_iconst X dX5_frays_0 ?_
  refine tw_istore_n (lv' := [(2, .int (enc (0))), (0, .ref (q 0)), (1, .int (enc (1)))]) X dX5_frays_1 rfl (by decide) rfl ?_
  refine tw_iconst X dX5_frays_2 ?_
  refine tw_istore_n (lv' := [(3, .int (enc (0))), (2, .int (enc (0))), (0, .ref (q 0)), (1, .int (enc (1)))]) X dX5_frays_3 rfl (by decide) rfl ?_
  have L4 : ∀ (fu i : Nat), (i : Int) ≤ M 17 0 → M 17 0 + 1 ≤ (i : Int) + fu → T G c ({ frames := 2, cells := 0, slots := 0, locals := 43 } : Room) 4 0 0 (wP cy q M th kept far) 4 [(0, .ref (q 0)), (1, .int (enc (1))), (2, .int (enc (frA M (M 20 0) i))), (3, .int (enc ((i : Int))))] [] := by
    intro fu
    induction fu with
    | zero =>
      intro i  hi0 hi1
      exact absurd hi1 (by omega)
    | succ fu ih4 =>
      intro i  hi0_4 hi1_4 
      refine tw_iload_n X dX5_frays_4 3 rfl rfl ?_
      refine tw_aload_n X dX5_frays_5 0 rfl rfl ?_
      refine gf_X5_54 X (v := .int (enc (M 17 0))) 0 rfl rfl dX5_frays_6 ?_
      have b1 := hB 17 0
      refine tw_icmp_ge (tgt := 44) X (In_of (by omega) (by omega)) (In_of (by omega) (by omega)) dX5_frays_9 (by decide) (fun c9 => ?_) (fun c9 => ?_)
      · skip
        refine tw_iload_n X dX5_frays_44 2 rfl rfl ?_
        exact ret _ _ _ _ dX5_frays_45 ⟨by rw [show (M 17 0).toNat = i by omega], rfl⟩
      · skip
        refine tw_iload_n X dX5_frays_12 2 rfl rfl ?_
        refine tw_iload_n X dX5_frays_13 1 rfl rfl ?_
        refine tw_if_ne (tgt := 27) X (In_of (by decide) (by decide)) dX5_frays_14 (by decide) (fun c14 => ?_) (fun c14 => ?_)
        · skip
          refine tw_aload_n X dX5_frays_27 0 rfl rfl ?_
          refine tw_iload_n X dX5_frays_28 3 rfl rfl ?_
          refine tw_callV X (As := [.int (enc ((i : Int)))]) (st := [.int (enc (frA M (M 20 0) i))]) vw_X5_145 (m_X5_fray (q := q) M th kept far ((i : Int)) B hF hB2 ⟨by omega, c9⟩) ([]) ([]) rfl rfl (q0 := 0) rfl rfl rfl ⟨rfl, rfl, Nat.le_of_ble_eq_true rfl, Nat.le_of_ble_eq_true rfl⟩ ⟨Nat.le_of_ble_eq_true rfl, Nat.le_of_ble_eq_true rfl⟩ (Nat.le_of_ble_eq_true rfl) dX5_frays_29 (fun v w1 hp => ?_)
          obtain ⟨rfl, rfl⟩ := hp
          refine Teq (ws' := wP cy q M th kept far) (lv' := [(0, .ref (q 0)), (1, .int (enc (1))), (2, .int (enc (frA M (M 20 0) i))), (3, .int (enc ((i : Int))))]) (st' := [.int (enc (frayAt M (i : Int) (M 20 0))), .int (enc (frA M (M 20 0) i))]) rfl rfl rfl ?_
          refine tw_goto (tgt := 36) X dX5_frays_32 (by decide) ?_
          refine tw_iadd (z := (frA M (M 20 0) i) + (frayAt M (i : Int) (M 20 0))) X dX5_frays_36 rfl ?_
          refine tw_istore_n (lv' := [(2, .int (enc ((frA M (M 20 0) i) + (frayAt M (i : Int) (M 20 0))))), (0, .ref (q 0)), (1, .int (enc (1))), (3, .int (enc ((i : Int))))]) X dX5_frays_37 rfl (by decide) rfl ?_
          refine tw_iinc (q := 3) (x := (i : Int)) (y := (i : Int) + 1) (lv' := [(3, .int (enc ((i : Int) + 1))), (2, .int (enc ((frA M (M 20 0) i) + (frayAt M (i : Int) (M 20 0))))), (0, .ref (q 0)), (1, .int (enc (1)))]) X dX5_frays_38 rfl rfl (by decide) rfl ?_
          refine tw_goto (tgt := 4) X dX5_frays_41 (by decide) ?_
          refine Tsub (lv' := [(0, .ref (q 0)), (1, .int (enc (1))), (2, .int (enc ((frA M (M 20 0) i) + (frayAt M (i : Int) (M 20 0))))), (3, .int (enc ((i : Int) + 1)))]) [2, 3, 1, 0] rfl ?_
          refine Teq (ws' := wP cy q M th kept far) (lv' := [(0, .ref (q 0)), (1, .int (enc (1))), (2, .int (enc (frA M (M 20 0) (i + 1)))), (3, .int (enc (((i + 1 : Nat) : Int))))]) (st' := []) (rfl) (lvk (lvk (lvc (by rw [frA_s]) (lvc (i_succ i) (rfl))))) rfl (ih4 (i + 1) (by omega) (by omega))
        · exact absurd c14 (by decide)
  refine Tsub (lv' := [(0, .ref (q 0)), (1, .int (enc (1))), (2, .int (enc (0))), (3, .int (enc (0)))]) [2, 3, 1, 0] rfl ?_
  refine Teq (ws' := wP cy q M th kept far) (lv' := [(0, .ref (q 0)), (1, .int (enc (1))), (2, .int (enc (frA M (M 20 0) 0))), (3, .int (enc (((0 : Nat) : Int))))]) (st' := []) (rfl) (rfl) rfl (L4 (M 17 0 + 1).toNat 0 (by omega) (by omega))
set_option maxRecDepth 100000 in
set_option maxHeartbeats 4000000 in
theorem m_X5_frays_0 {G : va_G} {cy : ClassId} {q : Nat → Nat} (M : MT) (th : Int) (kept far : Int → Int) (B : Int) (hF : WF M B) (hB2 : B ≤ 1000000) : Ct G cy yX5_frays cX5_frays 4 (some .int) ({ frames := 2, cells := 0, slots := 0, locals := 43 } : Room) 0 0 [.ref (q 0), .int (enc (0))] (wP cy q M th kept far) (fun v w1 => v = some (.int (enc (frI M (M 17 0).toNat))) ∧ w1 = wP cy q M th kept far) := by
  refine Ct.ofI (by decide) (Nat.le_of_ble_eq_true rfl) rfl rfl (fun _ _ _ => rfl) ?_
  intro c X ret
  have hB := hF.bd (by omega)
  obtain ⟨w0, w1, w2, w3, w4⟩ := hF.r
  have h17 := hF.2.2.2.2.2.1
  have h172 := hF.2.2.2.2.2.2.1
  have h20 := hF.2.2.2.2.2.2.2.1
  have b20 := hB 20 0
  refine Tlv (lv' := [(0, .ref (q 0)), (1, .int (enc (0)))]) rfl ?_
  refine tw_iconst X dX5_frays_0 ?_
  refine tw_istore_n (lv' := [(2, .int (enc (0))), (0, .ref (q 0)), (1, .int (enc (0)))]) X dX5_frays_1 rfl (by decide) rfl ?_
  refine tw_iconst X dX5_frays_2 ?_
  refine tw_istore_n (lv' := [(3, .int (enc (0))), (2, .int (enc (0))), (0, .ref (q 0)), (1, .int (enc (0)))]) X dX5_frays_3 rfl (by decide) rfl ?_
  have L4 : ∀ (fu i : Nat), (i : Int) ≤ M 17 0 → M 17 0 + 1 ≤ (i : Int) + fu → T G c ({ frames := 2, cells := 0, slots := 0, locals := 43 } : Room) 4 0 0 (wP cy q M th kept far) 4 [(0, .ref (q 0)), (1, .int (enc (0))), (2, .int (enc (frI M i))), (3, .int (enc ((i : Int))))] [] := by
    intro fu
    induction fu with
    | zero =>
      intro i  hi0 hi1
      exact absurd hi1 (by omega)
    | succ fu ih4 =>
      intro i  hi0_4 hi1_4 
      refine tw_iload_n X dX5_frays_4 3 rfl rfl ?_
      refine tw_aload_n X dX5_frays_5 0 rfl rfl ?_
      refine gf_X5_54 X (v := .int (enc (M 17 0))) 0 rfl rfl dX5_frays_6 ?_
      have b1 := hB 17 0
      refine tw_icmp_ge (tgt := 44) X (In_of (by omega) (by omega)) (In_of (by omega) (by omega)) dX5_frays_9 (by decide) (fun c9 => ?_) (fun c9 => ?_)
      · skip
        refine tw_iload_n X dX5_frays_44 2 rfl rfl ?_
        exact ret _ _ _ _ dX5_frays_45 ⟨by rw [show (M 17 0).toNat = i by omega], rfl⟩
      · skip
        refine tw_iload_n X dX5_frays_12 2 rfl rfl ?_
        refine tw_iload_n X dX5_frays_13 1 rfl rfl ?_
        refine tw_if_ne (tgt := 27) X (In_of (by decide) (by decide)) dX5_frays_14 (by decide) (fun c14 => ?_) (fun c14 => ?_)
        · exact absurd c14 (by decide)
        · skip
          refine tw_aload_n X dX5_frays_17 0 rfl rfl ?_
          refine tw_iload_n X dX5_frays_18 3 rfl rfl ?_
          refine tw_iconst X dX5_frays_19 ?_
          refine tw_callV X (As := [.int (enc ((i : Int))), .int (enc (4))]) (st := [.int (enc (frI M i))]) vw_X5_67 (m_X5_to_4 (q := q) M th kept far ((i : Int)) (by omega)) ([]) ([]) rfl rfl (q0 := 0) rfl rfl rfl ⟨rfl, rfl, Nat.le_of_ble_eq_true rfl, Nat.le_of_ble_eq_true rfl⟩ ⟨Nat.le_of_ble_eq_true rfl, Nat.le_of_ble_eq_true rfl⟩ (Nat.le_of_ble_eq_true rfl) dX5_frays_20 (fun v w1 hp => ?_)
          obtain ⟨rfl, rfl⟩ := hp
          refine Teq (ws' := wP cy q M th kept far) (lv' := [(0, .ref (q 0)), (1, .int (enc (0))), (2, .int (enc (frI M i))), (3, .int (enc ((i : Int))))]) (st' := [.int (enc (dnM M (i : Int))), .int (enc (frI M i))]) rfl rfl rfl ?_
          refine tw_iconst X dX5_frays_23 ?_
          have hTI := hF.2.2.2.2.2.2.2.2.2.1 (i : Int) (by omega) c9
          unfold TI at hTI
          have hdn := dn_no (M := M) (t := (i : Int)) (by omega)
          refine tw_icmp_eq (tgt := 35) X (dn_In hB _) (In_of (by omega) (by omega)) dX5_frays_24 (by decide) (fun c23 => ?_) (fun c23 => ?_)
          · skip
            rw [hdn] at c23
            have c23 : ¬ 0 ≤ M 15 (i : Int) := by omega
            refine tw_iconst X dX5_frays_35 ?_
            refine tw_iadd (z := (frI M i) + 0) X dX5_frays_36 rfl ?_
            refine tw_istore_n (lv' := [(2, .int (enc ((frI M i) + 0))), (0, .ref (q 0)), (1, .int (enc (0))), (3, .int (enc ((i : Int))))]) X dX5_frays_37 rfl (by decide) rfl ?_
            refine tw_iinc (q := 3) (x := (i : Int)) (y := (i : Int) + 1) (lv' := [(3, .int (enc ((i : Int) + 1))), (2, .int (enc ((frI M i) + 0))), (0, .ref (q 0)), (1, .int (enc (0)))]) X dX5_frays_38 rfl rfl (by decide) rfl ?_
            refine tw_goto (tgt := 4) X dX5_frays_41 (by decide) ?_
            refine Tsub (lv' := [(0, .ref (q 0)), (1, .int (enc (0))), (2, .int (enc ((frI M i) + 0))), (3, .int (enc ((i : Int) + 1)))]) [2, 3, 1, 0] rfl ?_
            refine Teq (ws' := wP cy q M th kept far) (lv' := [(0, .ref (q 0)), (1, .int (enc (0))), (2, .int (enc (frI M (i + 1)))), (3, .int (enc (((i + 1 : Nat) : Int))))]) (st' := []) (rfl) (lvk (lvk (lvc (by rw [frI_s]; first | (rw [if_neg c23]; done) | (rw [if_pos c23]; unfold frayAt; rw [if_pos c23])) (lvc (i_succ i) (rfl))))) rfl (ih4 (i + 1) (by omega) (by omega))
          · skip
            rw [ne_eq, hdn] at c23
            have c23 : 0 ≤ M 15 (i : Int) := by omega
            refine tw_aload_n X dX5_frays_27 0 rfl rfl ?_
            refine tw_iload_n X dX5_frays_28 3 rfl rfl ?_
            refine tw_callV X (As := [.int (enc ((i : Int)))]) (st := [.int (enc (frI M i))]) vw_X5_145 (m_X5_fray (q := q) M th kept far ((i : Int)) B hF hB2 ⟨by omega, c9⟩) ([]) ([]) rfl rfl (q0 := 0) rfl rfl rfl ⟨rfl, rfl, Nat.le_of_ble_eq_true rfl, Nat.le_of_ble_eq_true rfl⟩ ⟨Nat.le_of_ble_eq_true rfl, Nat.le_of_ble_eq_true rfl⟩ (Nat.le_of_ble_eq_true rfl) dX5_frays_29 (fun v w1 hp => ?_)
            obtain ⟨rfl, rfl⟩ := hp
            refine Teq (ws' := wP cy q M th kept far) (lv' := [(0, .ref (q 0)), (1, .int (enc (0))), (2, .int (enc (frI M i))), (3, .int (enc ((i : Int))))]) (st' := [.int (enc (frayAt M (i : Int) (M 20 0))), .int (enc (frI M i))]) rfl rfl rfl ?_
            refine tw_goto (tgt := 36) X dX5_frays_32 (by decide) ?_
            refine tw_iadd (z := (frI M i) + (frayAt M (i : Int) (M 20 0))) X dX5_frays_36 rfl ?_
            refine tw_istore_n (lv' := [(2, .int (enc ((frI M i) + (frayAt M (i : Int) (M 20 0))))), (0, .ref (q 0)), (1, .int (enc (0))), (3, .int (enc ((i : Int))))]) X dX5_frays_37 rfl (by decide) rfl ?_
            refine tw_iinc (q := 3) (x := (i : Int)) (y := (i : Int) + 1) (lv' := [(3, .int (enc ((i : Int) + 1))), (2, .int (enc ((frI M i) + (frayAt M (i : Int) (M 20 0))))), (0, .ref (q 0)), (1, .int (enc (0)))]) X dX5_frays_38 rfl rfl (by decide) rfl ?_
            refine tw_goto (tgt := 4) X dX5_frays_41 (by decide) ?_
            refine Tsub (lv' := [(0, .ref (q 0)), (1, .int (enc (0))), (2, .int (enc ((frI M i) + (frayAt M (i : Int) (M 20 0))))), (3, .int (enc ((i : Int) + 1)))]) [2, 3, 1, 0] rfl ?_
            refine Teq (ws' := wP cy q M th kept far) (lv' := [(0, .ref (q 0)), (1, .int (enc (0))), (2, .int (enc (frI M (i + 1)))), (3, .int (enc (((i + 1 : Nat) : Int))))]) (st' := []) (rfl) (lvk (lvk (lvc (by rw [frI_s]; first | (rw [if_neg c23]; done) | (rw [if_pos c23]; unfold frayAt; rw [if_pos c23])) (lvc (i_succ i) (rfl))))) rfl (ih4 (i + 1) (by omega) (by omega))
  refine Tsub (lv' := [(0, .ref (q 0)), (1, .int (enc (0))), (2, .int (enc (0))), (3, .int (enc (0)))]) [2, 3, 1, 0] rfl ?_
  refine Teq (ws' := wP cy q M th kept far) (lv' := [(0, .ref (q 0)), (1, .int (enc (0))), (2, .int (enc (frI M 0))), (3, .int (enc (((0 : Nat) : Int))))]) (st' := []) (rfl) (rfl) rfl (L4 (M 17 0 + 1).toNat 0 (by omega) (by omega))
set_option maxRecDepth 100000 in
set_option maxHeartbeats 4000000 in
theorem m_X5_worn {G : va_G} {cy : ClassId} {q : Nat → Nat} (M : MT) (th : Int) (kept far : Int → Int) (B : Int) (hF : WF M B) (hB2 : B ≤ 800000) : Ct G cy yX5_worn cX5_worn 3 (some .int) ({ frames := 2, cells := 0, slots := 0, locals := 43 } : Room) 0 0 [.ref (q 0)] (wP cy q M th kept far) (fun v w1 => v = some (.int (enc (mostW M (M 16 0).toNat).1)) ∧ w1 = wP cy q M th kept far) := by
  refine Ct.ofI (by decide) (Nat.le_of_ble_eq_true rfl) rfl rfl (fun _ _ _ => rfl) ?_
  intro c X ret
  have hB := hF.bd (by omega)
  obtain ⟨w0, w1, w2, w3, w4⟩ := hF.r
  have h17 := hF.2.2.2.2.2.1
  have h172 := hF.2.2.2.2.2.2.1
  have h20 := hF.2.2.2.2.2.2.2.1
  have h4 : ∀ r : Int, 0 ≤ M 4 r := fun r => (hF.2.2.2.1 r).1
  refine Tlv (lv' := [(0, .ref (q 0))]) rfl ?_
  refine tw_iconst X dX5_worn_0 ?_
  refine tw_istore_n (lv' := [(1, .int (enc (-1))), (0, .ref (q 0))]) X dX5_worn_1 rfl (by decide) rfl ?_
  refine tw_iconst X dX5_worn_2 ?_
  refine tw_istore_n (lv' := [(2, .int (enc (0))), (1, .int (enc (-1))), (0, .ref (q 0))]) X dX5_worn_3 rfl (by decide) rfl ?_
  have L4 : ∀ (fu i : Nat), (i : Int) ≤ M 16 0 → M 16 0 + 1 ≤ (i : Int) + fu → T G c ({ frames := 2, cells := 0, slots := 0, locals := 43 } : Room) 3 0 0 (wP cy q M th kept far) 4 [(0, .ref (q 0)), (1, .int (enc ((mostW M i).1))), (2, .int (enc ((i : Int))))] [] := by
    intro fu
    induction fu with
    | zero =>
      intro i  hi0 hi1
      exact absurd hi1 (by omega)
    | succ fu ih4 =>
      intro i  hi0_4 hi1_4 
      have hor := mostW_or h4 i
      refine tw_iload_n X dX5_worn_4 2 rfl rfl ?_
      refine tw_aload_n X dX5_worn_5 0 rfl rfl ?_
      refine gf_X5_51 X (v := .int (enc (M 16 0))) 0 rfl rfl dX5_worn_6 ?_
      have b1 := hB 16 0
      refine tw_icmp_ge (tgt := 48) X (In_of (by omega) (by omega)) (In_of (by omega) (by omega)) dX5_worn_9 (by decide) (fun c9 => ?_) (fun c9 => ?_)
      · skip
        refine tw_iload_n X dX5_worn_48 1 rfl rfl ?_
        exact ret _ _ _ _ dX5_worn_49 ⟨by rw [show (M 16 0).toNat = i by omega], rfl⟩
      · skip
        refine tw_aload_n X dX5_worn_12 0 rfl rfl ?_
        refine tw_iload_n X dX5_worn_13 2 rfl rfl ?_
        refine tw_callV X (As := [.int (enc ((i : Int)))]) (st := []) vw_X5_70 (m_X5_isOpen (q := q) M th kept far ((i : Int)) hB (by omega)) ([]) ([]) rfl rfl (q0 := 0) rfl rfl rfl ⟨rfl, rfl, Nat.le_of_ble_eq_true rfl, Nat.le_of_ble_eq_true rfl⟩ ⟨Nat.le_of_ble_eq_true rfl, Nat.le_of_ble_eq_true rfl⟩ (Nat.le_of_ble_eq_true rfl) dX5_worn_14 (fun v w1 hp => ?_)
        obtain ⟨rfl, rfl⟩ := hp
        refine Teq (ws' := wP cy q M th kept far) (lv' := [(0, .ref (q 0)), (1, .int (enc ((mostW M i).1))), (2, .int (enc ((i : Int))))]) (st' := [.int (enc (if M 6 (i : Int) = 0 then 1 else 0))]) rfl rfl rfl ?_
        refine tw_if_eq (tgt := 42) X In_b dX5_worn_17 (by decide) (fun c17 => ?_) (fun c17 => ?_)
        · skip
          have c17 := b01.mp c17
          refine tw_iinc (q := 2) (x := (i : Int)) (y := (i : Int) + 1) (lv' := [(2, .int (enc ((i : Int) + 1))), (0, .ref (q 0)), (1, .int (enc ((mostW M i).1)))]) X dX5_worn_42 rfl rfl (by decide) rfl ?_
          refine tw_goto (tgt := 4) X dX5_worn_45 (by decide) ?_
          refine Tsub (lv' := [(0, .ref (q 0)), (1, .int (enc ((mostW M i).1))), (2, .int (enc ((i : Int) + 1)))]) [1, 2, 0] rfl ?_
          refine Teq (ws' := wP cy q M th kept far) (lv' := [(0, .ref (q 0)), (1, .int (enc ((mostW M (i + 1)).1))), (2, .int (enc (((i + 1 : Nat) : Int))))]) (st' := []) (rfl) (lvk (lvc (by have h4i := h4 (i : Int); first | rw [mostW_y c17 (by omega)] | rw [mostW_n (by omega)]) (lvc (i_succ i) (rfl)))) rfl (ih4 (i + 1) (by omega) (by omega))
        · skip
          have c17 := b01n.mp c17
          refine tw_iload_n X dX5_worn_20 1 rfl rfl ?_
          refine tw_iconst X dX5_worn_21 ?_
          refine tw_icmp_eq (tgt := 40) X (In_of (by omega) (by omega)) (In_of (by omega) (by omega)) dX5_worn_22 (by decide) (fun c22 => ?_) (fun c22 => ?_)
          · skip
            refine tw_iload_n X dX5_worn_40 2 rfl rfl ?_
            refine tw_istore_n (lv' := [(1, .int (enc ((i : Int)))), (0, .ref (q 0)), (2, .int (enc ((i : Int))))]) X dX5_worn_41 rfl (by decide) rfl ?_
            refine tw_iinc (q := 2) (x := (i : Int)) (y := (i : Int) + 1) (lv' := [(2, .int (enc ((i : Int) + 1))), (1, .int (enc ((i : Int)))), (0, .ref (q 0))]) X dX5_worn_42 rfl rfl (by decide) rfl ?_
            refine tw_goto (tgt := 4) X dX5_worn_45 (by decide) ?_
            refine Tsub (lv' := [(0, .ref (q 0)), (1, .int (enc ((i : Int)))), (2, .int (enc ((i : Int) + 1)))]) [2, 1, 0] rfl ?_
            refine Teq (ws' := wP cy q M th kept far) (lv' := [(0, .ref (q 0)), (1, .int (enc ((mostW M (i + 1)).1))), (2, .int (enc (((i + 1 : Nat) : Int))))]) (st' := []) (rfl) (lvk (lvc (by have h4i := h4 (i : Int); first | rw [mostW_y c17 (by omega)] | rw [mostW_n (by omega)]) (lvc (i_succ i) (rfl)))) rfl (ih4 (i + 1) (by omega) (by omega))
          · skip
            refine tw_aload_n X dX5_worn_25 0 rfl rfl ?_
            refine tw_iload_n X dX5_worn_26 2 rfl rfl ?_
            refine tw_iconst X dX5_worn_27 ?_
            refine tw_callV X (As := [.int (enc ((i : Int))), .int (enc (1))]) (st := []) vw_X5_63 (m_X5_ro_1 (q := q) M th kept far ((i : Int)) (by omega)) ([]) ([]) rfl rfl (q0 := 0) rfl rfl rfl ⟨rfl, rfl, Nat.le_of_ble_eq_true rfl, Nat.le_of_ble_eq_true rfl⟩ ⟨Nat.le_of_ble_eq_true rfl, Nat.le_of_ble_eq_true rfl⟩ (Nat.le_of_ble_eq_true rfl) dX5_worn_28 (fun v w1 hp => ?_)
            obtain ⟨rfl, rfl⟩ := hp
            refine Teq (ws' := wP cy q M th kept far) (lv' := [(0, .ref (q 0)), (1, .int (enc ((mostW M i).1))), (2, .int (enc ((i : Int))))]) (st' := [.int (enc (M 4 (i : Int)))]) rfl rfl rfl ?_
            have b2 := hB 4 (i : Int)
            refine tw_aload_n X dX5_worn_31 0 rfl rfl ?_
            refine tw_iload_n X dX5_worn_32 1 rfl rfl ?_
            refine tw_iconst X dX5_worn_33 ?_
            refine tw_callV X (As := [.int (enc ((mostW M i).1)), .int (enc (1))]) (st := [.int (enc (M 4 (i : Int)))]) vw_X5_63 (m_X5_ro_1 (q := q) M th kept far ((mostW M i).1) (by omega)) ([]) ([]) rfl rfl (q0 := 0) rfl rfl rfl ⟨rfl, rfl, Nat.le_of_ble_eq_true rfl, Nat.le_of_ble_eq_true rfl⟩ ⟨Nat.le_of_ble_eq_true rfl, Nat.le_of_ble_eq_true rfl⟩ (Nat.le_of_ble_eq_true rfl) dX5_worn_34 (fun v w1 hp => ?_)
            obtain ⟨rfl, rfl⟩ := hp
            refine Teq (ws' := wP cy q M th kept far) (lv' := [(0, .ref (q 0)), (1, .int (enc ((mostW M i).1))), (2, .int (enc ((i : Int))))]) (st' := [.int (enc (M 4 ((mostW M i).1))), .int (enc (M 4 (i : Int)))]) rfl rfl rfl ?_
            have b3 := hB 4 (((mostW M i).1))
            refine tw_icmp_le (tgt := 42) X (In_of (by omega) (by omega)) (In_of (by omega) (by omega)) dX5_worn_37 (by decide) (fun c37 => ?_) (fun c37 => ?_)
            · skip
              refine tw_iinc (q := 2) (x := (i : Int)) (y := (i : Int) + 1) (lv' := [(2, .int (enc ((i : Int) + 1))), (0, .ref (q 0)), (1, .int (enc ((mostW M i).1)))]) X dX5_worn_42 rfl rfl (by decide) rfl ?_
              refine tw_goto (tgt := 4) X dX5_worn_45 (by decide) ?_
              refine Tsub (lv' := [(0, .ref (q 0)), (1, .int (enc ((mostW M i).1))), (2, .int (enc ((i : Int) + 1)))]) [1, 2, 0] rfl ?_
              refine Teq (ws' := wP cy q M th kept far) (lv' := [(0, .ref (q 0)), (1, .int (enc ((mostW M (i + 1)).1))), (2, .int (enc (((i + 1 : Nat) : Int))))]) (st' := []) (rfl) (lvk (lvc (by have h4i := h4 (i : Int); first | rw [mostW_y c17 (by omega)] | rw [mostW_n (by omega)]) (lvc (i_succ i) (rfl)))) rfl (ih4 (i + 1) (by omega) (by omega))
            · skip
              refine tw_iload_n X dX5_worn_40 2 rfl rfl ?_
              refine tw_istore_n (lv' := [(1, .int (enc ((i : Int)))), (0, .ref (q 0)), (2, .int (enc ((i : Int))))]) X dX5_worn_41 rfl (by decide) rfl ?_
              refine tw_iinc (q := 2) (x := (i : Int)) (y := (i : Int) + 1) (lv' := [(2, .int (enc ((i : Int) + 1))), (1, .int (enc ((i : Int)))), (0, .ref (q 0))]) X dX5_worn_42 rfl rfl (by decide) rfl ?_
              refine tw_goto (tgt := 4) X dX5_worn_45 (by decide) ?_
              refine Tsub (lv' := [(0, .ref (q 0)), (1, .int (enc ((i : Int)))), (2, .int (enc ((i : Int) + 1)))]) [2, 1, 0] rfl ?_
              refine Teq (ws' := wP cy q M th kept far) (lv' := [(0, .ref (q 0)), (1, .int (enc ((mostW M (i + 1)).1))), (2, .int (enc (((i + 1 : Nat) : Int))))]) (st' := []) (rfl) (lvk (lvc (by have h4i := h4 (i : Int); first | rw [mostW_y c17 (by omega)] | rw [mostW_n (by omega)]) (lvc (i_succ i) (rfl)))) rfl (ih4 (i + 1) (by omega) (by omega))
  refine Tsub (lv' := [(0, .ref (q 0)), (1, .int (enc (-1))), (2, .int (enc (0)))]) [2, 1, 0] rfl ?_
  refine Teq (ws' := wP cy q M th kept far) (lv' := [(0, .ref (q 0)), (1, .int (enc ((mostW M 0).1))), (2, .int (enc (((0 : Nat) : Int))))]) (st' := []) (rfl) (rfl) rfl (L4 (M 16 0 + 1).toNat 0 (by omega) (by omega))
set_option maxRecDepth 100000 in
set_option maxHeartbeats 4000000 in
theorem m_X5_parted {G : va_G} {cy : ClassId} {q : Nat → Nat} (M : MT) (th : Int) (kept far : Int → Int) (B : Int) (hF : WF M B) (hB2 : B ≤ 800000) : Ct G cy yX5_parted cX5_parted 4 (some .int) ({ frames := 3, cells := 0, slots := 0, locals := 69 } : Room) 0 0 [.ref (q 0)] (wP cy q M th kept far) (fun v w1 => v = some (.int (enc (pdP M (M 19 0).toNat))) ∧ ∃ f', w1 = wP cy q M th kept f') := by
  refine Ct.ofI (by decide) (Nat.le_of_ble_eq_true rfl) rfl rfl (fun _ _ _ => rfl) ?_
  intro c X ret
  have hB := hF.bd (by omega)
  obtain ⟨w0, w1, w2, w3, w4⟩ := hF.r
  have h17 := hF.2.2.2.2.2.1
  have h172 := hF.2.2.2.2.2.2.1
  have h20 := hF.2.2.2.2.2.2.2.1
  refine Tlv (lv' := [(0, .ref (q 0))]) rfl ?_
  refine tw_iconst X dX5_parted_0 ?_
  refine tw_istore_n (lv' := [(1, .int (enc (0))), (0, .ref (q 0))]) X dX5_parted_1 rfl (by decide) rfl ?_
  refine tw_iconst X dX5_parted_2 ?_
  refine tw_istore_n (lv' := [(2, .int (enc (0))), (1, .int (enc (0))), (0, .ref (q 0))]) X dX5_parted_3 rfl (by decide) rfl ?_
  have L4 : ∀ (fu i : Nat) (f1 : Int → Int), (i : Int) ≤ M 19 0 → M 19 0 + 1 ≤ (i : Int) + fu → T G c ({ frames := 3, cells := 0, slots := 0, locals := 69 } : Room) 4 0 0 (wP cy q M th kept f1) 4 [(0, .ref (q 0)), (1, .int (enc (pdP M i))), (2, .int (enc ((i : Int))))] [] := by
    intro fu
    induction fu with
    | zero =>
      intro i f1 hi0 hi1
      exact absurd hi1 (by omega)
    | succ fu ih4 =>
      intro i f1 hi0_4 hi1_4 
      refine tw_iload_n X dX5_parted_4 2 rfl rfl ?_
      refine tw_aload_n X dX5_parted_5 0 rfl rfl ?_
      refine gf_X5_44 X (v := .int (enc (M 19 0))) 0 rfl rfl dX5_parted_6 ?_
      have b1 := hB 19 0
      refine tw_icmp_ge (tgt := 57) X (In_of (by omega) (by omega)) (In_of (by omega) (by omega)) dX5_parted_9 (by decide) (fun c9 => ?_) (fun c9 => ?_)
      · skip
        refine tw_iload_n X dX5_parted_57 1 rfl rfl ?_
        exact ret _ _ _ _ dX5_parted_58 ⟨by rw [show (M 19 0).toNat = i by omega], f1, rfl⟩
      · skip
        refine tw_aload_n X dX5_parted_12 0 rfl rfl ?_
        refine tw_iload_n X dX5_parted_13 2 rfl rfl ?_
        refine tw_iconst X dX5_parted_14 ?_
        refine tw_callV X (As := [.int (enc ((i : Int))), .int (enc (0))]) (st := []) vw_X5_83 (m_X5_measure (q := q) M th kept f1 ((i : Int)) true hF.r hB ⟨by omega, c9⟩) ([]) ([]) rfl rfl (q0 := 0) rfl rfl rfl ⟨rfl, rfl, Nat.le_of_ble_eq_true rfl, Nat.le_of_ble_eq_true rfl⟩ ⟨Nat.le_of_ble_eq_true rfl, Nat.le_of_ble_eq_true rfl⟩ (Nat.le_of_ble_eq_true rfl) dX5_parted_15 (fun v w1 hp => ?_)
        obtain ⟨rfl, fm, hfm, rfl⟩ := hp
        refine Teq (ws' := wP cy q M th kept fm) (lv' := [(0, .ref (q 0)), (1, .int (enc (pdP M i))), (2, .int (enc ((i : Int))))]) (st' := []) rfl rfl rfl ?_
        refine tw_iconst X dX5_parted_18 ?_
        refine tw_istore_n (lv' := [(3, .int (enc (0))), (0, .ref (q 0)), (1, .int (enc (pdP M i))), (2, .int (enc ((i : Int))))]) X dX5_parted_19 rfl (by decide) rfl ?_
        have L20 : ∀ (fu j : Nat), (j : Int) ≤ (i : Int) → (i : Int) + 1 ≤ (j : Int) + fu → T G c ({ frames := 3, cells := 0, slots := 0, locals := 69 } : Room) 4 0 0 (wP cy q M th kept fm) 20 [(0, .ref (q 0)), (1, .int (enc (pdP M i + pdF M (i : Int) j))), (2, .int (enc ((i : Int)))), (3, .int (enc ((j : Int))))] [] := by
          intro fu
          induction fu with
          | zero =>
            intro j  hi0 hi1
            exact absurd hi1 (by omega)
          | succ fu ih20 =>
            intro j  hi0_20 hi1_20 
            refine tw_iload_n X dX5_parted_20 3 rfl rfl ?_
            refine tw_iload_n X dX5_parted_21 2 rfl rfl ?_
            refine tw_icmp_ge (tgt := 51) X (In_of (by omega) (by omega)) (In_of (by omega) (by omega)) dX5_parted_22 (by decide) (fun c22 => ?_) (fun c22 => ?_)
            · skip
              refine tw_iinc (q := 2) (x := (i : Int)) (y := (i : Int) + 1) (lv' := [(2, .int (enc ((i : Int) + 1))), (0, .ref (q 0)), (1, .int (enc (pdP M i + pdF M (i : Int) j))), (3, .int (enc ((j : Int))))]) X dX5_parted_51 rfl rfl (by decide) rfl ?_
              refine tw_goto (tgt := 4) X dX5_parted_54 (by decide) ?_
              refine Tsub (lv' := [(0, .ref (q 0)), (1, .int (enc (pdP M i + pdF M (i : Int) j))), (2, .int (enc ((i : Int) + 1)))]) [1, 2, 0] rfl ?_
              refine Teq (ws' := wP cy q M th kept (fm)) (lv' := [(0, .ref (q 0)), (1, .int (enc (pdP M (i + 1)))), (2, .int (enc (((i + 1 : Nat) : Int))))]) (st' := []) (rfl) (lvk (lvc (by rw [pdP_s, show j = i by omega]) (lvc (i_succ i) (rfl)))) rfl (ih4 (i + 1) (fm) (by omega) (by omega))
            · skip
              have hfj := hfm (j : Int) (by omega) (by omega)
              have hsym := dst_sym (o := true) hF.r (a := (i : Int)) (b := (j : Int)) (by omega) (by omega)
              have hd := dst_ok (o := true) hF.r (j : Int) (i : Int)
              have hd0 := hd.1
              have hd1 := hd.2.1
              have h108 : dst M true (j : Int) (i : Int) < 1000000 → dst M true (j : Int) (i : Int) ≤ 108 := dst_108 hF.r (by omega) (by omega)
              have hfj2 : fm (j : Int) = if dst M true (j : Int) (i : Int) < 1000000 then dst M true (j : Int) (i : Int) else 9999 := hfj
              have hfj3 : (fm (j : Int) < 9999 ↔ dst M true (j : Int) (i : Int) < 1000000) ∧ 0 ≤ fm (j : Int) ∧ fm (j : Int) ≤ 9999 := by rw [hfj2]; split <;> omega
              refine tw_iload_n X dX5_parted_25 1 rfl rfl ?_
              refine tw_aload_n X dX5_parted_26 0 rfl rfl ?_
              refine gf_X5_37 X (v := .ref (q 10)) 0 rfl rfl dX5_parted_27 ?_
              refine tw_iload_n X dX5_parted_30 3 rfl rfl ?_
              refine tw_iald X (N := 10) (f := fm) 10 rfl (by decide) (by omega) dX5_parted_31 ?_
              refine Tst (st' := [.int (enc (fm (j : Int))), .int (enc (pdP M i + pdF M (i : Int) j))]) rfl ?_
              refine tw_sipush X dX5_parted_32 (by decide) ?_
              refine tw_icmp_lt (tgt := 42) X (In_of (by omega) (by omega)) (In_of (by omega) (by omega)) dX5_parted_35 (by decide) (fun c35 => ?_) (fun c35 => ?_)
              · skip
                refine tw_iconst X dX5_parted_42 ?_
                refine tw_iadd (z := (pdP M i + pdF M (i : Int) j) + 0) X dX5_parted_43 rfl ?_
                refine tw_istore_n (lv' := [(1, .int (enc ((pdP M i + pdF M (i : Int) j) + 0))), (0, .ref (q 0)), (2, .int (enc ((i : Int)))), (3, .int (enc ((j : Int))))]) X dX5_parted_44 rfl (by decide) rfl ?_
                refine tw_iinc (q := 3) (x := (j : Int)) (y := (j : Int) + 1) (lv' := [(3, .int (enc ((j : Int) + 1))), (1, .int (enc ((pdP M i + pdF M (i : Int) j) + 0))), (0, .ref (q 0)), (2, .int (enc ((i : Int))))]) X dX5_parted_45 rfl rfl (by decide) rfl ?_
                refine tw_goto (tgt := 20) X dX5_parted_48 (by decide) ?_
                refine Tsub (lv' := [(0, .ref (q 0)), (1, .int (enc ((pdP M i + pdF M (i : Int) j) + 0))), (2, .int (enc ((i : Int)))), (3, .int (enc ((j : Int) + 1)))]) [2, 1, 3, 0] rfl ?_
                refine Teq (ws' := wP cy q M th kept fm) (lv' := [(0, .ref (q 0)), (1, .int (enc (pdP M i + pdF M (i : Int) (j + 1)))), (2, .int (enc ((i : Int)))), (3, .int (enc (((j + 1 : Nat) : Int))))]) (st' := []) (rfl) (lvk (lvc (by rw [pdF_s, hsym]; first | (rw [if_pos (by omega)]; omega) | (rw [if_neg (by omega)]; omega)) (lvk (lvc (i_succ j) (rfl))))) rfl (ih20 (j + 1) (by omega) (by omega))
              · skip
                refine tw_iconst X dX5_parted_38 ?_
                refine tw_goto (tgt := 43) X dX5_parted_39 (by decide) ?_
                refine tw_iadd (z := (pdP M i + pdF M (i : Int) j) + 1) X dX5_parted_43 rfl ?_
                refine tw_istore_n (lv' := [(1, .int (enc ((pdP M i + pdF M (i : Int) j) + 1))), (0, .ref (q 0)), (2, .int (enc ((i : Int)))), (3, .int (enc ((j : Int))))]) X dX5_parted_44 rfl (by decide) rfl ?_
                refine tw_iinc (q := 3) (x := (j : Int)) (y := (j : Int) + 1) (lv' := [(3, .int (enc ((j : Int) + 1))), (1, .int (enc ((pdP M i + pdF M (i : Int) j) + 1))), (0, .ref (q 0)), (2, .int (enc ((i : Int))))]) X dX5_parted_45 rfl rfl (by decide) rfl ?_
                refine tw_goto (tgt := 20) X dX5_parted_48 (by decide) ?_
                refine Tsub (lv' := [(0, .ref (q 0)), (1, .int (enc ((pdP M i + pdF M (i : Int) j) + 1))), (2, .int (enc ((i : Int)))), (3, .int (enc ((j : Int) + 1)))]) [2, 1, 3, 0] rfl ?_
                refine Teq (ws' := wP cy q M th kept fm) (lv' := [(0, .ref (q 0)), (1, .int (enc (pdP M i + pdF M (i : Int) (j + 1)))), (2, .int (enc ((i : Int)))), (3, .int (enc (((j + 1 : Nat) : Int))))]) (st' := []) (rfl) (lvk (lvc (by rw [pdF_s, hsym]; first | (rw [if_pos (by omega)]; omega) | (rw [if_neg (by omega)]; omega)) (lvk (lvc (i_succ j) (rfl))))) rfl (ih20 (j + 1) (by omega) (by omega))
        refine Tsub (lv' := [(0, .ref (q 0)), (1, .int (enc (pdP M i))), (2, .int (enc ((i : Int)))), (3, .int (enc (0)))]) [1, 2, 3, 0] rfl ?_
        refine Teq (ws' := wP cy q M th kept fm) (lv' := [(0, .ref (q 0)), (1, .int (enc (pdP M i + pdF M (i : Int) 0))), (2, .int (enc ((i : Int)))), (3, .int (enc (((0 : Nat) : Int))))]) (st' := []) (rfl) (lvk (lvc (by show _ = pdP M i + 0; omega) (lvk (lvk (rfl))))) rfl (L20 ((i : Int) + 1).toNat 0 (by omega) (by omega))
  refine Tsub (lv' := [(0, .ref (q 0)), (1, .int (enc (0))), (2, .int (enc (0)))]) [2, 1, 0] rfl ?_
  refine Teq (ws' := wP cy q M th kept (far)) (lv' := [(0, .ref (q 0)), (1, .int (enc (pdP M 0))), (2, .int (enc (((0 : Nat) : Int))))]) (st' := []) (rfl) (rfl) rfl (L4 (M 19 0 + 1).toNat 0 (far) (by omega) (by omega))
