/-! THE CONSTRUCTORS: all begins at M0 -/
def M0 : MT := fun _ _ => 0
def z0 : Int → Int := fun _ => 0
set_option maxRecDepth 100000 in
set_option maxHeartbeats 4000000 in
theorem b_X0 {G : va_G} {cy : ClassId} {a : Nat} : CtN G cy yX0_init cX0_init 1 ({ frames := 1, cells := 7, slots := 140, locals := 20 } : Room) 7 140 [.ref a] [(a, .inr (0, [.null, .null, .null, .null, .null, .null, .null, .int (enc 0)]))] (fun v w1 => v = none ∧ ∃ q : Nat → Nat, q 0 = a ∧ w1 = wR cy q M0) := by
  refine CtN.ofV (by decide) (Nat.le_of_ble_eq_true rfl) rfl rfl ?_
  intro c X hN hI ret
  refine Tlv (lv' := [(0, .ref a)]) rfl ?_
  refine tw_aload_n X dX0_init_0 0 rfl rfl ?_
  refine tn_obj X wl_X0_3 (Nat.le_of_ble_eq_true rfl) (Nat.le_of_ble_eq_true rfl) dX0_init_1 ?_
  refine tw_aload_n X dX0_init_4 0 rfl rfl ?_
  refine tw_bipush X dX0_init_5 (by decide) ?_
  refine tw_newa X (N := 20) rfl (by decide) (Nat.le_of_ble_eq_true rfl) (Nat.le_of_ble_eq_true rfl) dX0_init_7 (fun q7 => ?_)
  refine Tws (ws' := [(a, .inr (0, [.null, .null, .null, .null, .null, .null, .null, .int (enc 0)]))] ++ [(q7, arI cy 20 z0)]) rfl ?_
  refine tn_putF X hI (C := RX0) (TF := TX0) (N := 8) (ci := 0) inA_X0 rfl tyX0 tyX0_ok nmX0 0 (by decide) wf_X0_9 rfl rfl rfl 0 rfl (Nat.le_of_ble_eq_true rfl) rfl rfl dX0_init_9 (ws' := [(a, .inr (0, [.ref q7, .null, .null, .null, .null, .null, .null, .int (enc 0)]))] ++ [(q7, arI cy 20 z0)]) rfl ?_
  refine tw_aload_n X dX0_init_12 0 rfl rfl ?_
  refine tw_bipush X dX0_init_13 (by decide) ?_
  refine tw_newa X (N := 20) rfl (by decide) (Nat.le_of_ble_eq_true rfl) (Nat.le_of_ble_eq_true rfl) dX0_init_15 (fun q15 => ?_)
  refine Tws (ws' := [(a, .inr (0, [.ref q7, .null, .null, .null, .null, .null, .null, .int (enc 0)]))] ++ [(q7, arI cy 20 z0)] ++ [(q15, arI cy 20 z0)]) rfl ?_
  refine tn_putF X hI (C := RX0) (TF := TX0) (N := 8) (ci := 0) inA_X0 rfl tyX0 tyX0_ok nmX0 1 (by decide) wf_X0_15 rfl rfl rfl 0 rfl (Nat.le_of_ble_eq_true rfl) rfl rfl dX0_init_17 (ws' := [(a, .inr (0, [.ref q7, .ref q15, .null, .null, .null, .null, .null, .int (enc 0)]))] ++ [(q7, arI cy 20 z0)] ++ [(q15, arI cy 20 z0)]) rfl ?_
  refine tw_aload_n X dX0_init_20 0 rfl rfl ?_
  refine tw_bipush X dX0_init_21 (by decide) ?_
  refine tw_newa X (N := 20) rfl (by decide) (Nat.le_of_ble_eq_true rfl) (Nat.le_of_ble_eq_true rfl) dX0_init_23 (fun q23 => ?_)
  refine Tws (ws' := [(a, .inr (0, [.ref q7, .ref q15, .null, .null, .null, .null, .null, .int (enc 0)]))] ++ [(q7, arI cy 20 z0)] ++ [(q15, arI cy 20 z0)] ++ [(q23, arI cy 20 z0)]) rfl ?_
  refine tn_putF X hI (C := RX0) (TF := TX0) (N := 8) (ci := 0) inA_X0 rfl tyX0 tyX0_ok nmX0 2 (by decide) wf_X0_18 rfl rfl rfl 0 rfl (Nat.le_of_ble_eq_true rfl) rfl rfl dX0_init_25 (ws' := [(a, .inr (0, [.ref q7, .ref q15, .ref q23, .null, .null, .null, .null, .int (enc 0)]))] ++ [(q7, arI cy 20 z0)] ++ [(q15, arI cy 20 z0)] ++ [(q23, arI cy 20 z0)]) rfl ?_
  refine tw_aload_n X dX0_init_28 0 rfl rfl ?_
  refine tw_bipush X dX0_init_29 (by decide) ?_
  refine tw_newa X (N := 20) rfl (by decide) (Nat.le_of_ble_eq_true rfl) (Nat.le_of_ble_eq_true rfl) dX0_init_31 (fun q31 => ?_)
  refine Tws (ws' := [(a, .inr (0, [.ref q7, .ref q15, .ref q23, .null, .null, .null, .null, .int (enc 0)]))] ++ [(q7, arI cy 20 z0)] ++ [(q15, arI cy 20 z0)] ++ [(q23, arI cy 20 z0)] ++ [(q31, arI cy 20 z0)]) rfl ?_
  refine tn_putF X hI (C := RX0) (TF := TX0) (N := 8) (ci := 0) inA_X0 rfl tyX0 tyX0_ok nmX0 3 (by decide) wf_X0_21 rfl rfl rfl 0 rfl (Nat.le_of_ble_eq_true rfl) rfl rfl dX0_init_33 (ws' := [(a, .inr (0, [.ref q7, .ref q15, .ref q23, .ref q31, .null, .null, .null, .int (enc 0)]))] ++ [(q7, arI cy 20 z0)] ++ [(q15, arI cy 20 z0)] ++ [(q23, arI cy 20 z0)] ++ [(q31, arI cy 20 z0)]) rfl ?_
  refine tw_aload_n X dX0_init_36 0 rfl rfl ?_
  refine tw_bipush X dX0_init_37 (by decide) ?_
  refine tw_newa X (N := 20) rfl (by decide) (Nat.le_of_ble_eq_true rfl) (Nat.le_of_ble_eq_true rfl) dX0_init_39 (fun q39 => ?_)
  refine Tws (ws' := [(a, .inr (0, [.ref q7, .ref q15, .ref q23, .ref q31, .null, .null, .null, .int (enc 0)]))] ++ [(q7, arI cy 20 z0)] ++ [(q15, arI cy 20 z0)] ++ [(q23, arI cy 20 z0)] ++ [(q31, arI cy 20 z0)] ++ [(q39, arI cy 20 z0)]) rfl ?_
  refine tn_putF X hI (C := RX0) (TF := TX0) (N := 8) (ci := 0) inA_X0 rfl tyX0 tyX0_ok nmX0 4 (by decide) wf_X0_24 rfl rfl rfl 0 rfl (Nat.le_of_ble_eq_true rfl) rfl rfl dX0_init_41 (ws' := [(a, .inr (0, [.ref q7, .ref q15, .ref q23, .ref q31, .ref q39, .null, .null, .int (enc 0)]))] ++ [(q7, arI cy 20 z0)] ++ [(q15, arI cy 20 z0)] ++ [(q23, arI cy 20 z0)] ++ [(q31, arI cy 20 z0)] ++ [(q39, arI cy 20 z0)]) rfl ?_
  refine tw_aload_n X dX0_init_44 0 rfl rfl ?_
  refine tw_bipush X dX0_init_45 (by decide) ?_
  refine tw_newa X (N := 20) rfl (by decide) (Nat.le_of_ble_eq_true rfl) (Nat.le_of_ble_eq_true rfl) dX0_init_47 (fun q47 => ?_)
  refine Tws (ws' := [(a, .inr (0, [.ref q7, .ref q15, .ref q23, .ref q31, .ref q39, .null, .null, .int (enc 0)]))] ++ [(q7, arI cy 20 z0)] ++ [(q15, arI cy 20 z0)] ++ [(q23, arI cy 20 z0)] ++ [(q31, arI cy 20 z0)] ++ [(q39, arI cy 20 z0)] ++ [(q47, arI cy 20 z0)]) rfl ?_
  refine tn_putF X hI (C := RX0) (TF := TX0) (N := 8) (ci := 0) inA_X0 rfl tyX0 tyX0_ok nmX0 5 (by decide) wf_X0_27 rfl rfl rfl 0 rfl (Nat.le_of_ble_eq_true rfl) rfl rfl dX0_init_49 (ws' := [(a, .inr (0, [.ref q7, .ref q15, .ref q23, .ref q31, .ref q39, .ref q47, .null, .int (enc 0)]))] ++ [(q7, arI cy 20 z0)] ++ [(q15, arI cy 20 z0)] ++ [(q23, arI cy 20 z0)] ++ [(q31, arI cy 20 z0)] ++ [(q39, arI cy 20 z0)] ++ [(q47, arI cy 20 z0)]) rfl ?_
  refine tw_aload_n X dX0_init_52 0 rfl rfl ?_
  refine tw_bipush X dX0_init_53 (by decide) ?_
  refine tw_newa X (N := 20) rfl (by decide) (Nat.le_of_ble_eq_true rfl) (Nat.le_of_ble_eq_true rfl) dX0_init_55 (fun q55 => ?_)
  refine Tws (ws' := [(a, .inr (0, [.ref q7, .ref q15, .ref q23, .ref q31, .ref q39, .ref q47, .null, .int (enc 0)]))] ++ [(q7, arI cy 20 z0)] ++ [(q15, arI cy 20 z0)] ++ [(q23, arI cy 20 z0)] ++ [(q31, arI cy 20 z0)] ++ [(q39, arI cy 20 z0)] ++ [(q47, arI cy 20 z0)] ++ [(q55, arI cy 20 z0)]) rfl ?_
  refine tn_putF X hI (C := RX0) (TF := TX0) (N := 8) (ci := 0) inA_X0 rfl tyX0 tyX0_ok nmX0 6 (by decide) wf_X0_30 rfl rfl rfl 0 rfl (Nat.le_of_ble_eq_true rfl) rfl rfl dX0_init_57 (ws' := [(a, .inr (0, [.ref q7, .ref q15, .ref q23, .ref q31, .ref q39, .ref q47, .ref q55, .int (enc 0)]))] ++ [(q7, arI cy 20 z0)] ++ [(q15, arI cy 20 z0)] ++ [(q23, arI cy 20 z0)] ++ [(q31, arI cy 20 z0)] ++ [(q39, arI cy 20 z0)] ++ [(q47, arI cy 20 z0)] ++ [(q55, arI cy 20 z0)]) rfl ?_
  exact ret _ _ _ dX0_init_60 ⟨rfl, (fun i => ([a, q7, q15, q23, q31, q39, q47, q55] : List Nat).getD i 0), rfl, rfl⟩
set_option maxRecDepth 100000 in
set_option maxHeartbeats 4000000 in
theorem b_X1 {G : va_G} {cy : ClassId} {a : Nat} : CtN G cy yX1_init cX1_init 1 ({ frames := 1, cells := 9, slots := 108, locals := 20 } : Room) 9 108 [.ref a] [(a, .inr (1, [.null, .null, .null, .null, .null, .null, .null, .null, .null, .int (enc 0), .int (enc 0)]))] (fun v w1 => v = none ∧ ∃ q : Nat → Nat, q 0 = a ∧ w1 = wT cy q M0) := by
  refine CtN.ofV (by decide) (Nat.le_of_ble_eq_true rfl) rfl rfl ?_
  intro c X hN hI ret
  refine Tlv (lv' := [(0, .ref a)]) rfl ?_
  refine tw_aload_n X dX1_init_0 0 rfl rfl ?_
  refine tn_obj X wl_X1_3 (Nat.le_of_ble_eq_true rfl) (Nat.le_of_ble_eq_true rfl) dX1_init_1 ?_
  refine tw_aload_n X dX1_init_4 0 rfl rfl ?_
  refine tw_bipush X dX1_init_5 (by decide) ?_
  refine tw_newa X (N := 12) rfl (by decide) (Nat.le_of_ble_eq_true rfl) (Nat.le_of_ble_eq_true rfl) dX1_init_7 (fun q7 => ?_)
  refine Tws (ws' := [(a, .inr (1, [.null, .null, .null, .null, .null, .null, .null, .null, .null, .int (enc 0), .int (enc 0)]))] ++ [(q7, arI cy 12 z0)]) rfl ?_
  refine tn_putF X hI (C := RX1) (TF := TX1) (N := 11) (ci := 1) inA_X1 rfl tyX1 tyX1_ok nmX1 0 (by decide) wf_X1_9 rfl rfl rfl 0 rfl (Nat.le_of_ble_eq_true rfl) rfl rfl dX1_init_9 (ws' := [(a, .inr (1, [.ref q7, .null, .null, .null, .null, .null, .null, .null, .null, .int (enc 0), .int (enc 0)]))] ++ [(q7, arI cy 12 z0)]) rfl ?_
  refine tw_aload_n X dX1_init_12 0 rfl rfl ?_
  refine tw_bipush X dX1_init_13 (by decide) ?_
  refine tw_newa X (N := 12) rfl (by decide) (Nat.le_of_ble_eq_true rfl) (Nat.le_of_ble_eq_true rfl) dX1_init_15 (fun q15 => ?_)
  refine Tws (ws' := [(a, .inr (1, [.ref q7, .null, .null, .null, .null, .null, .null, .null, .null, .int (enc 0), .int (enc 0)]))] ++ [(q7, arI cy 12 z0)] ++ [(q15, arI cy 12 z0)]) rfl ?_
  refine tn_putF X hI (C := RX1) (TF := TX1) (N := 11) (ci := 1) inA_X1 rfl tyX1 tyX1_ok nmX1 1 (by decide) wf_X1_15 rfl rfl rfl 0 rfl (Nat.le_of_ble_eq_true rfl) rfl rfl dX1_init_17 (ws' := [(a, .inr (1, [.ref q7, .ref q15, .null, .null, .null, .null, .null, .null, .null, .int (enc 0), .int (enc 0)]))] ++ [(q7, arI cy 12 z0)] ++ [(q15, arI cy 12 z0)]) rfl ?_
  refine tw_aload_n X dX1_init_20 0 rfl rfl ?_
  refine tw_bipush X dX1_init_21 (by decide) ?_
  refine tw_newa X (N := 12) rfl (by decide) (Nat.le_of_ble_eq_true rfl) (Nat.le_of_ble_eq_true rfl) dX1_init_23 (fun q23 => ?_)
  refine Tws (ws' := [(a, .inr (1, [.ref q7, .ref q15, .null, .null, .null, .null, .null, .null, .null, .int (enc 0), .int (enc 0)]))] ++ [(q7, arI cy 12 z0)] ++ [(q15, arI cy 12 z0)] ++ [(q23, arI cy 12 z0)]) rfl ?_
  refine tn_putF X hI (C := RX1) (TF := TX1) (N := 11) (ci := 1) inA_X1 rfl tyX1 tyX1_ok nmX1 2 (by decide) wf_X1_18 rfl rfl rfl 0 rfl (Nat.le_of_ble_eq_true rfl) rfl rfl dX1_init_25 (ws' := [(a, .inr (1, [.ref q7, .ref q15, .ref q23, .null, .null, .null, .null, .null, .null, .int (enc 0), .int (enc 0)]))] ++ [(q7, arI cy 12 z0)] ++ [(q15, arI cy 12 z0)] ++ [(q23, arI cy 12 z0)]) rfl ?_
  refine tw_aload_n X dX1_init_28 0 rfl rfl ?_
  refine tw_bipush X dX1_init_29 (by decide) ?_
  refine tw_newa X (N := 12) rfl (by decide) (Nat.le_of_ble_eq_true rfl) (Nat.le_of_ble_eq_true rfl) dX1_init_31 (fun q31 => ?_)
  refine Tws (ws' := [(a, .inr (1, [.ref q7, .ref q15, .ref q23, .null, .null, .null, .null, .null, .null, .int (enc 0), .int (enc 0)]))] ++ [(q7, arI cy 12 z0)] ++ [(q15, arI cy 12 z0)] ++ [(q23, arI cy 12 z0)] ++ [(q31, arI cy 12 z0)]) rfl ?_
  refine tn_putF X hI (C := RX1) (TF := TX1) (N := 11) (ci := 1) inA_X1 rfl tyX1 tyX1_ok nmX1 3 (by decide) wf_X1_21 rfl rfl rfl 0 rfl (Nat.le_of_ble_eq_true rfl) rfl rfl dX1_init_33 (ws' := [(a, .inr (1, [.ref q7, .ref q15, .ref q23, .ref q31, .null, .null, .null, .null, .null, .int (enc 0), .int (enc 0)]))] ++ [(q7, arI cy 12 z0)] ++ [(q15, arI cy 12 z0)] ++ [(q23, arI cy 12 z0)] ++ [(q31, arI cy 12 z0)]) rfl ?_
  refine tw_aload_n X dX1_init_36 0 rfl rfl ?_
  refine tw_bipush X dX1_init_37 (by decide) ?_
  refine tw_newa X (N := 12) rfl (by decide) (Nat.le_of_ble_eq_true rfl) (Nat.le_of_ble_eq_true rfl) dX1_init_39 (fun q39 => ?_)
  refine Tws (ws' := [(a, .inr (1, [.ref q7, .ref q15, .ref q23, .ref q31, .null, .null, .null, .null, .null, .int (enc 0), .int (enc 0)]))] ++ [(q7, arI cy 12 z0)] ++ [(q15, arI cy 12 z0)] ++ [(q23, arI cy 12 z0)] ++ [(q31, arI cy 12 z0)] ++ [(q39, arI cy 12 z0)]) rfl ?_
  refine tn_putF X hI (C := RX1) (TF := TX1) (N := 11) (ci := 1) inA_X1 rfl tyX1 tyX1_ok nmX1 4 (by decide) wf_X1_24 rfl rfl rfl 0 rfl (Nat.le_of_ble_eq_true rfl) rfl rfl dX1_init_41 (ws' := [(a, .inr (1, [.ref q7, .ref q15, .ref q23, .ref q31, .ref q39, .null, .null, .null, .null, .int (enc 0), .int (enc 0)]))] ++ [(q7, arI cy 12 z0)] ++ [(q15, arI cy 12 z0)] ++ [(q23, arI cy 12 z0)] ++ [(q31, arI cy 12 z0)] ++ [(q39, arI cy 12 z0)]) rfl ?_
  refine tw_aload_n X dX1_init_44 0 rfl rfl ?_
  refine tw_bipush X dX1_init_45 (by decide) ?_
  refine tw_newa X (N := 12) rfl (by decide) (Nat.le_of_ble_eq_true rfl) (Nat.le_of_ble_eq_true rfl) dX1_init_47 (fun q47 => ?_)
  refine Tws (ws' := [(a, .inr (1, [.ref q7, .ref q15, .ref q23, .ref q31, .ref q39, .null, .null, .null, .null, .int (enc 0), .int (enc 0)]))] ++ [(q7, arI cy 12 z0)] ++ [(q15, arI cy 12 z0)] ++ [(q23, arI cy 12 z0)] ++ [(q31, arI cy 12 z0)] ++ [(q39, arI cy 12 z0)] ++ [(q47, arI cy 12 z0)]) rfl ?_
  refine tn_putF X hI (C := RX1) (TF := TX1) (N := 11) (ci := 1) inA_X1 rfl tyX1 tyX1_ok nmX1 5 (by decide) wf_X1_27 rfl rfl rfl 0 rfl (Nat.le_of_ble_eq_true rfl) rfl rfl dX1_init_49 (ws' := [(a, .inr (1, [.ref q7, .ref q15, .ref q23, .ref q31, .ref q39, .ref q47, .null, .null, .null, .int (enc 0), .int (enc 0)]))] ++ [(q7, arI cy 12 z0)] ++ [(q15, arI cy 12 z0)] ++ [(q23, arI cy 12 z0)] ++ [(q31, arI cy 12 z0)] ++ [(q39, arI cy 12 z0)] ++ [(q47, arI cy 12 z0)]) rfl ?_
  refine tw_aload_n X dX1_init_52 0 rfl rfl ?_
  refine tw_bipush X dX1_init_53 (by decide) ?_
  refine tw_newa X (N := 12) rfl (by decide) (Nat.le_of_ble_eq_true rfl) (Nat.le_of_ble_eq_true rfl) dX1_init_55 (fun q55 => ?_)
  refine Tws (ws' := [(a, .inr (1, [.ref q7, .ref q15, .ref q23, .ref q31, .ref q39, .ref q47, .null, .null, .null, .int (enc 0), .int (enc 0)]))] ++ [(q7, arI cy 12 z0)] ++ [(q15, arI cy 12 z0)] ++ [(q23, arI cy 12 z0)] ++ [(q31, arI cy 12 z0)] ++ [(q39, arI cy 12 z0)] ++ [(q47, arI cy 12 z0)] ++ [(q55, arI cy 12 z0)]) rfl ?_
  refine tn_putF X hI (C := RX1) (TF := TX1) (N := 11) (ci := 1) inA_X1 rfl tyX1 tyX1_ok nmX1 6 (by decide) wf_X1_30 rfl rfl rfl 0 rfl (Nat.le_of_ble_eq_true rfl) rfl rfl dX1_init_57 (ws' := [(a, .inr (1, [.ref q7, .ref q15, .ref q23, .ref q31, .ref q39, .ref q47, .ref q55, .null, .null, .int (enc 0), .int (enc 0)]))] ++ [(q7, arI cy 12 z0)] ++ [(q15, arI cy 12 z0)] ++ [(q23, arI cy 12 z0)] ++ [(q31, arI cy 12 z0)] ++ [(q39, arI cy 12 z0)] ++ [(q47, arI cy 12 z0)] ++ [(q55, arI cy 12 z0)]) rfl ?_
  refine tw_aload_n X dX1_init_60 0 rfl rfl ?_
  refine tw_bipush X dX1_init_61 (by decide) ?_
  refine tw_newa X (N := 12) rfl (by decide) (Nat.le_of_ble_eq_true rfl) (Nat.le_of_ble_eq_true rfl) dX1_init_63 (fun q63 => ?_)
  refine Tws (ws' := [(a, .inr (1, [.ref q7, .ref q15, .ref q23, .ref q31, .ref q39, .ref q47, .ref q55, .null, .null, .int (enc 0), .int (enc 0)]))] ++ [(q7, arI cy 12 z0)] ++ [(q15, arI cy 12 z0)] ++ [(q23, arI cy 12 z0)] ++ [(q31, arI cy 12 z0)] ++ [(q39, arI cy 12 z0)] ++ [(q47, arI cy 12 z0)] ++ [(q55, arI cy 12 z0)] ++ [(q63, arI cy 12 z0)]) rfl ?_
  refine tn_putF X hI (C := RX1) (TF := TX1) (N := 11) (ci := 1) inA_X1 rfl tyX1 tyX1_ok nmX1 7 (by decide) wf_X1_33 rfl rfl rfl 0 rfl (Nat.le_of_ble_eq_true rfl) rfl rfl dX1_init_65 (ws' := [(a, .inr (1, [.ref q7, .ref q15, .ref q23, .ref q31, .ref q39, .ref q47, .ref q55, .ref q63, .null, .int (enc 0), .int (enc 0)]))] ++ [(q7, arI cy 12 z0)] ++ [(q15, arI cy 12 z0)] ++ [(q23, arI cy 12 z0)] ++ [(q31, arI cy 12 z0)] ++ [(q39, arI cy 12 z0)] ++ [(q47, arI cy 12 z0)] ++ [(q55, arI cy 12 z0)] ++ [(q63, arI cy 12 z0)]) rfl ?_
  refine tw_aload_n X dX1_init_68 0 rfl rfl ?_
  refine tw_bipush X dX1_init_69 (by decide) ?_
  refine tw_newa X (N := 12) rfl (by decide) (Nat.le_of_ble_eq_true rfl) (Nat.le_of_ble_eq_true rfl) dX1_init_71 (fun q71 => ?_)
  refine Tws (ws' := [(a, .inr (1, [.ref q7, .ref q15, .ref q23, .ref q31, .ref q39, .ref q47, .ref q55, .ref q63, .null, .int (enc 0), .int (enc 0)]))] ++ [(q7, arI cy 12 z0)] ++ [(q15, arI cy 12 z0)] ++ [(q23, arI cy 12 z0)] ++ [(q31, arI cy 12 z0)] ++ [(q39, arI cy 12 z0)] ++ [(q47, arI cy 12 z0)] ++ [(q55, arI cy 12 z0)] ++ [(q63, arI cy 12 z0)] ++ [(q71, arI cy 12 z0)]) rfl ?_
  refine tn_putF X hI (C := RX1) (TF := TX1) (N := 11) (ci := 1) inA_X1 rfl tyX1 tyX1_ok nmX1 8 (by decide) wf_X1_36 rfl rfl rfl 0 rfl (Nat.le_of_ble_eq_true rfl) rfl rfl dX1_init_73 (ws' := [(a, .inr (1, [.ref q7, .ref q15, .ref q23, .ref q31, .ref q39, .ref q47, .ref q55, .ref q63, .ref q71, .int (enc 0), .int (enc 0)]))] ++ [(q7, arI cy 12 z0)] ++ [(q15, arI cy 12 z0)] ++ [(q23, arI cy 12 z0)] ++ [(q31, arI cy 12 z0)] ++ [(q39, arI cy 12 z0)] ++ [(q47, arI cy 12 z0)] ++ [(q55, arI cy 12 z0)] ++ [(q63, arI cy 12 z0)] ++ [(q71, arI cy 12 z0)]) rfl ?_
  exact ret _ _ _ dX1_init_76 ⟨rfl, (fun i => ([a, q7, q15, q23, q31, q39, q47, q55, q63, q71] : List Nat).getD i 0), rfl, rfl⟩
set_option maxRecDepth 100000 in
set_option maxHeartbeats 4000000 in
theorem b_X2 {G : va_G} {cy : ClassId} {a : Nat} : CtN G cy yX2_init cX2_init 1 ({ frames := 1, cells := 1, slots := 100, locals := 20 } : Room) 1 100 [.ref a] [(a, .inr (2, [.null]))] (fun v w1 => v = none ∧ ∃ q : Nat → Nat, q 0 = a ∧ w1 = wY cy q z0) := by
  refine CtN.ofV (by decide) (Nat.le_of_ble_eq_true rfl) rfl rfl ?_
  intro c X hN hI ret
  refine Tlv (lv' := [(0, .ref a)]) rfl ?_
  refine tw_aload_n X dX2_init_0 0 rfl rfl ?_
  refine tn_obj X wl_X2_3 (Nat.le_of_ble_eq_true rfl) (Nat.le_of_ble_eq_true rfl) dX2_init_1 ?_
  refine tw_aload_n X dX2_init_4 0 rfl rfl ?_
  refine tw_bipush X dX2_init_5 (by decide) ?_
  refine tw_newa X (N := 100) rfl (by decide) (Nat.le_of_ble_eq_true rfl) (Nat.le_of_ble_eq_true rfl) dX2_init_7 (fun q7 => ?_)
  refine Tws (ws' := [(a, .inr (2, [.null]))] ++ [(q7, arI cy 100 z0)]) rfl ?_
  refine tn_putF X hI (C := RX2) (TF := TX2) (N := 1) (ci := 2) inA_X2 rfl tyX2 tyX2_ok nmX2 0 (by decide) wf_X2_9 rfl rfl rfl 0 rfl (Nat.le_of_ble_eq_true rfl) rfl rfl dX2_init_9 (ws' := [(a, .inr (2, [.ref q7]))] ++ [(q7, arI cy 100 z0)]) rfl ?_
  exact ret _ _ _ dX2_init_12 ⟨rfl, (fun i => ([a, q7] : List Nat).getD i 0), rfl, rfl⟩
set_option maxRecDepth 100000 in
set_option maxHeartbeats 4000000 in
theorem b_X3 {G : va_G} {cy : ClassId} {a : Nat} : CtN G cy yX3_init cX3_init 1 ({ frames := 2, cells := 20, slots := 368, locals := 48 } : Room) 20 368 [.ref a] [(a, .inr (3, [.null, .null, .null, .int (enc 0), .int (enc 0), .int (enc 0)]))] (fun v w1 => v = none ∧ ∃ q : Nat → Nat, q 0 = a ∧ w1 = wV cy q M0 z0 0) := by
  refine CtN.ofV (by decide) (Nat.le_of_ble_eq_true rfl) rfl rfl ?_
  intro c X hN hI ret
  refine Tlv (lv' := [(0, .ref a)]) rfl ?_
  refine tw_aload_n X dX3_init_0 0 rfl rfl ?_
  refine tn_obj X wl_X3_3 (Nat.le_of_ble_eq_true rfl) (Nat.le_of_ble_eq_true rfl) dX3_init_1 ?_
  refine tw_aload_n X dX3_init_4 0 rfl rfl ?_
  refine tw_new X (C := RX0) (TF := TX0) (N := 8) (ci := 0) inA_X0 rfl tyX0 tyX0_ok wc_X3_9 wi_X0 wz_X0 (fs := [.null, .null, .null, .null, .null, .null, .null, .int (enc 0)]) (fun j hj => by rcases (show j = 0 ∨ j = 1 ∨ j = 2 ∨ j = 3 ∨ j = 4 ∨ j = 5 ∨ j = 6 ∨ j = 7 by omega) with rfl | rfl | rfl | rfl | rfl | rfl | rfl | rfl <;> rfl) (Nat.le_of_ble_eq_true rfl) (Nat.le_of_ble_eq_true rfl) dX3_init_5 (fun q5 => ?_)
  refine tw_dup X dX3_init_8 rfl ?_
  refine tn_callN X hN (host := "DetourLoom") (List.mem_of_getElem? (i := 2) rfl) wq_X0_init wp_X0_init wz_X0 (by decide +kernel) rfl (b_X0 (a := q5)) ([(a, .inr (3, [.null, .null, .null, .int (enc 0), .int (enc 0), .int (enc 0)]))]) [] rfl ⟨rfl, rfl, Nat.le_of_ble_eq_true rfl, Nat.le_of_ble_eq_true rfl⟩ ⟨Nat.le_of_ble_eq_true rfl, Nat.le_of_ble_eq_true rfl⟩ (Nat.le_of_ble_eq_true rfl) dX3_init_9 (fun v w1 hp => ?_)
  obtain ⟨rfl, f9, e9, rfl⟩ := hp
  subst e9
  refine Teq (ws' := [(a, .inr (3, [.null, .null, .null, .int (enc 0), .int (enc 0), .int (enc 0)]))] ++ (wR cy f9 M0)) (lv' := [(0, .ref a)]) (st' := [.ref (f9 0), .ref a]) rfl rfl rfl ?_
  refine tn_putF X hI (C := RX3) (TF := TX3) (N := 6) (ci := 3) inA_X3 rfl tyX3 tyX3_ok nmX3 0 (by decide) wf_X3_12 rfl rfl rfl 0 rfl (Nat.le_of_ble_eq_true rfl) rfl rfl dX3_init_12 (ws' := [(a, .inr (3, [.ref (f9 0), .null, .null, .int (enc 0), .int (enc 0), .int (enc 0)]))] ++ (wR cy f9 M0)) rfl ?_
  refine tw_aload_n X dX3_init_15 0 rfl rfl ?_
  refine tw_new X (C := RX1) (TF := TX1) (N := 11) (ci := 1) inA_X1 rfl tyX1 tyX1_ok wc_X3_18 wi_X1 wz_X1 (fs := [.null, .null, .null, .null, .null, .null, .null, .null, .null, .int (enc 0), .int (enc 0)]) (fun j hj => by rcases (show j = 0 ∨ j = 1 ∨ j = 2 ∨ j = 3 ∨ j = 4 ∨ j = 5 ∨ j = 6 ∨ j = 7 ∨ j = 8 ∨ j = 9 ∨ j = 10 by omega) with rfl | rfl | rfl | rfl | rfl | rfl | rfl | rfl | rfl | rfl | rfl <;> rfl) (Nat.le_of_ble_eq_true rfl) (Nat.le_of_ble_eq_true rfl) dX3_init_16 (fun q16 => ?_)
  refine tw_dup X dX3_init_19 rfl ?_
  refine tn_callN X hN (host := "DetourLoom") (List.mem_of_getElem? (i := 3) rfl) wq_X1_init wp_X1_init wz_X1 (by decide +kernel) rfl (b_X1 (a := q16)) ([(a, .inr (3, [.ref (f9 0), .null, .null, .int (enc 0), .int (enc 0), .int (enc 0)]))] ++ (wR cy f9 M0)) [] rfl ⟨rfl, rfl, Nat.le_of_ble_eq_true rfl, Nat.le_of_ble_eq_true rfl⟩ ⟨Nat.le_of_ble_eq_true rfl, Nat.le_of_ble_eq_true rfl⟩ (Nat.le_of_ble_eq_true rfl) dX3_init_20 (fun v w1 hp => ?_)
  obtain ⟨rfl, f20, e20, rfl⟩ := hp
  subst e20
  refine Teq (ws' := [(a, .inr (3, [.ref (f9 0), .null, .null, .int (enc 0), .int (enc 0), .int (enc 0)]))] ++ (wR cy f9 M0) ++ (wT cy f20 M0)) (lv' := [(0, .ref a)]) (st' := [.ref (f20 0), .ref a]) rfl rfl rfl ?_
  refine tn_putF X hI (C := RX3) (TF := TX3) (N := 6) (ci := 3) inA_X3 rfl tyX3 tyX3_ok nmX3 1 (by decide) wf_X3_21 rfl rfl rfl 0 rfl (Nat.le_of_ble_eq_true rfl) rfl rfl dX3_init_23 (ws' := [(a, .inr (3, [.ref (f9 0), .ref (f20 0), .null, .int (enc 0), .int (enc 0), .int (enc 0)]))] ++ (wR cy f9 M0) ++ (wT cy f20 M0)) rfl ?_
  refine tw_aload_n X dX3_init_26 0 rfl rfl ?_
  refine tw_new X (C := RX2) (TF := TX2) (N := 1) (ci := 2) inA_X2 rfl tyX2 tyX2_ok wc_X3_25 wi_X2 wz_X2 (fs := [.null]) (fun j hj => by rcases (show j = 0 by omega) with rfl <;> rfl) (Nat.le_of_ble_eq_true rfl) (Nat.le_of_ble_eq_true rfl) dX3_init_27 (fun q27 => ?_)
  refine tw_dup X dX3_init_30 rfl ?_
  refine tn_callN X hN (host := "DetourLoom") (List.mem_of_getElem? (i := 4) rfl) wq_X2_init wp_X2_init wz_X2 (by decide +kernel) rfl (b_X2 (a := q27)) ([(a, .inr (3, [.ref (f9 0), .ref (f20 0), .null, .int (enc 0), .int (enc 0), .int (enc 0)]))] ++ (wR cy f9 M0) ++ (wT cy f20 M0)) [] rfl ⟨rfl, rfl, Nat.le_of_ble_eq_true rfl, Nat.le_of_ble_eq_true rfl⟩ ⟨Nat.le_of_ble_eq_true rfl, Nat.le_of_ble_eq_true rfl⟩ (Nat.le_of_ble_eq_true rfl) dX3_init_31 (fun v w1 hp => ?_)
  obtain ⟨rfl, f31, e31, rfl⟩ := hp
  subst e31
  refine Teq (ws' := [(a, .inr (3, [.ref (f9 0), .ref (f20 0), .null, .int (enc 0), .int (enc 0), .int (enc 0)]))] ++ (wR cy f9 M0) ++ (wT cy f20 M0) ++ (wY cy f31 z0)) (lv' := [(0, .ref a)]) (st' := [.ref (f31 0), .ref a]) rfl rfl rfl ?_
  refine tn_putF X hI (C := RX3) (TF := TX3) (N := 6) (ci := 3) inA_X3 rfl tyX3 tyX3_ok nmX3 2 (by decide) wf_X3_28 rfl rfl rfl 0 rfl (Nat.le_of_ble_eq_true rfl) rfl rfl dX3_init_34 (ws' := [(a, .inr (3, [.ref (f9 0), .ref (f20 0), .ref (f31 0), .int (enc 0), .int (enc 0), .int (enc 0)]))] ++ (wR cy f9 M0) ++ (wT cy f20 M0) ++ (wY cy f31 z0)) rfl ?_
  exact ret _ _ _ dX3_init_37 ⟨rfl, (fun i => cond (Nat.blt i 1) (a) (cond (Nat.blt i 9) (f9 (i - 1)) (cond (Nat.blt i 19) (f20 (i - 9)) (f31 (i - 19))))), rfl, rfl⟩
set_option maxRecDepth 100000 in
set_option maxHeartbeats 4000000 in
theorem b_X4 {G : va_G} {cy : ClassId} {a : Nat} : CtN G cy yX4_init cX4_init 1 ({ frames := 3, cells := 44, slots := 849, locals := 76 } : Room) 44 849 [.ref a] [(a, .inr (4, [.null, .null, .null]))] (fun v w1 => v = none ∧ ∃ q : Nat → Nat, q 0 = a ∧ w1 = wD cy q M0 z0 0 M0 z0 0 z0) := by
  refine CtN.ofV (by decide) (Nat.le_of_ble_eq_true rfl) rfl rfl ?_
  intro c X hN hI ret
  refine Tlv (lv' := [(0, .ref a)]) rfl ?_
  refine tw_aload_n X dX4_init_0 0 rfl rfl ?_
  refine tn_obj X wl_X4_1 (Nat.le_of_ble_eq_true rfl) (Nat.le_of_ble_eq_true rfl) dX4_init_1 ?_
  refine tw_aload_n X dX4_init_4 0 rfl rfl ?_
  refine tw_new X (C := RX3) (TF := TX3) (N := 6) (ci := 3) inA_X3 rfl tyX3 tyX3_ok wc_X4_7 wi_X3 wz_X3 (fs := [.null, .null, .null, .int (enc 0), .int (enc 0), .int (enc 0)]) (fun j hj => by rcases (show j = 0 ∨ j = 1 ∨ j = 2 ∨ j = 3 ∨ j = 4 ∨ j = 5 by omega) with rfl | rfl | rfl | rfl | rfl | rfl <;> rfl) (Nat.le_of_ble_eq_true rfl) (Nat.le_of_ble_eq_true rfl) dX4_init_5 (fun q5 => ?_)
  refine tw_dup X dX4_init_8 rfl ?_
  refine tn_callN X hN (host := "DetourLoom") (List.mem_of_getElem? (i := 0) rfl) wq_X3_init wp_X3_init wz_X3 (by decide +kernel) rfl (b_X3 (a := q5)) ([(a, .inr (4, [.null, .null, .null]))]) [] rfl ⟨rfl, rfl, Nat.le_of_ble_eq_true rfl, Nat.le_of_ble_eq_true rfl⟩ ⟨Nat.le_of_ble_eq_true rfl, Nat.le_of_ble_eq_true rfl⟩ (Nat.le_of_ble_eq_true rfl) dX4_init_9 (fun v w1 hp => ?_)
  obtain ⟨rfl, f9, e9, rfl⟩ := hp
  subst e9
  refine Teq (ws' := [(a, .inr (4, [.null, .null, .null]))] ++ (wV cy f9 M0 z0 0)) (lv' := [(0, .ref a)]) (st' := [.ref (f9 0), .ref a]) rfl rfl rfl ?_
  refine tn_putF X hI (C := RX4) (TF := TX4) (N := 3) (ci := 4) inA_X4 rfl tyX4 tyX4_ok nmX4 0 (by decide) wf_X4_10 rfl rfl rfl 0 rfl (Nat.le_of_ble_eq_true rfl) rfl rfl dX4_init_12 (ws' := [(a, .inr (4, [.ref (f9 0), .null, .null]))] ++ (wV cy f9 M0 z0 0)) rfl ?_
  refine tw_aload_n X dX4_init_15 0 rfl rfl ?_
  refine tw_new X (C := RX3) (TF := TX3) (N := 6) (ci := 3) inA_X3 rfl tyX3 tyX3_ok wc_X4_7 wi_X3 wz_X3 (fs := [.null, .null, .null, .int (enc 0), .int (enc 0), .int (enc 0)]) (fun j hj => by rcases (show j = 0 ∨ j = 1 ∨ j = 2 ∨ j = 3 ∨ j = 4 ∨ j = 5 by omega) with rfl | rfl | rfl | rfl | rfl | rfl <;> rfl) (Nat.le_of_ble_eq_true rfl) (Nat.le_of_ble_eq_true rfl) dX4_init_16 (fun q16 => ?_)
  refine tw_dup X dX4_init_19 rfl ?_
  refine tn_callN X hN (host := "DetourLoom") (List.mem_of_getElem? (i := 0) rfl) wq_X3_init wp_X3_init wz_X3 (by decide +kernel) rfl (b_X3 (a := q16)) ([(a, .inr (4, [.ref (f9 0), .null, .null]))] ++ (wV cy f9 M0 z0 0)) [] rfl ⟨rfl, rfl, Nat.le_of_ble_eq_true rfl, Nat.le_of_ble_eq_true rfl⟩ ⟨Nat.le_of_ble_eq_true rfl, Nat.le_of_ble_eq_true rfl⟩ (Nat.le_of_ble_eq_true rfl) dX4_init_20 (fun v w1 hp => ?_)
  obtain ⟨rfl, f20, e20, rfl⟩ := hp
  subst e20
  refine Teq (ws' := [(a, .inr (4, [.ref (f9 0), .null, .null]))] ++ (wV cy f9 M0 z0 0) ++ (wV cy f20 M0 z0 0)) (lv' := [(0, .ref a)]) (st' := [.ref (f20 0), .ref a]) rfl rfl rfl ?_
  refine tn_putF X hI (C := RX4) (TF := TX4) (N := 3) (ci := 4) inA_X4 rfl tyX4 tyX4_ok nmX4 1 (by decide) wf_X4_16 rfl rfl rfl 0 rfl (Nat.le_of_ble_eq_true rfl) rfl rfl dX4_init_23 (ws' := [(a, .inr (4, [.ref (f9 0), .ref (f20 0), .null]))] ++ (wV cy f9 M0 z0 0) ++ (wV cy f20 M0 z0 0)) rfl ?_
  refine tw_aload_n X dX4_init_26 0 rfl rfl ?_
  refine tw_new X (C := RX2) (TF := TX2) (N := 1) (ci := 2) inA_X2 rfl tyX2 tyX2_ok wc_X4_19 wi_X2 wz_X2 (fs := [.null]) (fun j hj => by rcases (show j = 0 by omega) with rfl <;> rfl) (Nat.le_of_ble_eq_true rfl) (Nat.le_of_ble_eq_true rfl) dX4_init_27 (fun q27 => ?_)
  refine tw_dup X dX4_init_30 rfl ?_
  refine tn_callN X hN (host := "DetourLoom") (List.mem_of_getElem? (i := 1) rfl) wq_X2_init wp_X2_init wz_X2 (by decide +kernel) rfl (b_X2 (a := q27)) ([(a, .inr (4, [.ref (f9 0), .ref (f20 0), .null]))] ++ (wV cy f9 M0 z0 0) ++ (wV cy f20 M0 z0 0)) [] rfl ⟨rfl, rfl, Nat.le_of_ble_eq_true rfl, Nat.le_of_ble_eq_true rfl⟩ ⟨Nat.le_of_ble_eq_true rfl, Nat.le_of_ble_eq_true rfl⟩ (Nat.le_of_ble_eq_true rfl) dX4_init_31 (fun v w1 hp => ?_)
  obtain ⟨rfl, f31, e31, rfl⟩ := hp
  subst e31
  refine Teq (ws' := [(a, .inr (4, [.ref (f9 0), .ref (f20 0), .null]))] ++ (wV cy f9 M0 z0 0) ++ (wV cy f20 M0 z0 0) ++ (wY cy f31 z0)) (lv' := [(0, .ref a)]) (st' := [.ref (f31 0), .ref a]) rfl rfl rfl ?_
  refine tn_putF X hI (C := RX4) (TF := TX4) (N := 3) (ci := 4) inA_X4 rfl tyX4 tyX4_ok nmX4 2 (by decide) wf_X4_22 rfl rfl rfl 0 rfl (Nat.le_of_ble_eq_true rfl) rfl rfl dX4_init_34 (ws' := [(a, .inr (4, [.ref (f9 0), .ref (f20 0), .ref (f31 0)]))] ++ (wV cy f9 M0 z0 0) ++ (wV cy f20 M0 z0 0) ++ (wY cy f31 z0)) rfl ?_
  exact ret _ _ _ dX4_init_37 ⟨rfl, (fun i => cond (Nat.blt i 1) (a) (cond (Nat.blt i 22) (f9 (i - 1)) (cond (Nat.blt i 43) (f20 (i - 22)) (f31 (i - 43))))), rfl, rfl⟩
/-- what an array of rows holds, where it can be seen -/
theorem Tgcong {G : va_G} {c : Cx} {R : Room} {nL k n : Nat} {ws : va_W} {pc : Nat} {lv : List (Nat × Value)} {st : List Value} {a N : Nat} {f f' : Nat → Option Nat} {ws' : va_W} (i : Nat) (hq : ws[i]? = some (a, gI G N f)) (h : ∀ j : Nat, j < N → f j = f' j) (hw : ws.set i (a, gI G N f') = ws') (kk : T G c R nL k n ws' pc lv st) : T G c R nL k n ws pc lv st := by
  have ec : vp_cell (G.1 101) (N, .inr (.inr (.inr (.inr f)))) = vp_cell (G.1 101) (N, .inr (.inr (.inr (.inr f')))) := by
    have e : (Array.ofFn (n := N) fun j => va_rf (f j.val)) = Array.ofFn (n := N) fun j => va_rf (f' j.val) := by
      congr 1
      funext j
      rw [h j.val j.isLt]
    show ({ cls := G.1 101, slots := Array.ofFn (n := N) fun j => va_rf (f j.val), vm := .none } : Cell) = _
    rw [e]
    rfl
  have hl2 : i < ws.length := (List.getElem?_eq_some_iff.mp hq).1
  have key : ∀ (j : Nat) (q : Nat × va_E), ws'[j]? = some q → (j = i ∧ q = (a, gI G N f')) ∨ (j ≠ i ∧ ws[j]? = some q) := by
    intro j q hj
    rw [← hw] at hj
    by_cases hi : j = i
    · subst hi
      rw [List.getElem?_set_self hl2] at hj
      cases hj
      exact Or.inl ⟨rfl, rfl⟩
    · rw [List.getElem?_set_ne (Ne.symm hi)] at hj
      exact Or.inr ⟨hi, hj⟩
  refine Tcells (ws' := ws') (fun H hP j q hj => ?_) (fun A hD => ⟨fun j1 j2 p q hp hq2 e => ?_, fun j q hj => ?_⟩) kk
  · rcases key j q hj with ⟨-, rfl⟩ | ⟨-, h2⟩
    · have := hP i _ hq
      show H[a]? = some (vp_cell _ _)
      rw [← ec]
      exact this
    · exact hP j q h2
  · rcases key j1 p hp with ⟨e1, rfl⟩ | ⟨e1, h1⟩ <;> rcases key j2 q hq2 with ⟨e2, rfl⟩ | ⟨e2, h2⟩
    · rw [e1, e2]
    · exact absurd (hD.1 i j2 _ q hq h2 e) (fun z => e2 z.symm)
    · exact absurd (hD.1 j1 i p _ h1 hq e) e1
    · exact hD.1 j1 j2 p q h1 h2 e
  · rcases key j q hj with ⟨-, rfl⟩ | ⟨-, h2⟩
    · have h9 := hD.2 i _ hq
      exact h9
    · exact hD.2 j q h2
set_option maxRecDepth 100000 in
set_option maxHeartbeats 4000000 in
theorem b_X5 {G : va_G} {cy : ClassId} {a : Nat} : CtN G cy yX5_init cX5_init 1 ({ frames := 1, cells := 2, slots := 0, locals := 20 } : Room) 2 0 [.ref a] [(a, .inr (5, [.int (enc 0), .int (enc 0), .null, .null]))] (fun v w1 => v = none ∧ ∃ q : Nat → Nat, q 0 = a ∧ w1 = wS G cy q (fun _ => 0) (fun _ => 0) M0 z0) := by
  refine CtN.ofV (by decide) (Nat.le_of_ble_eq_true rfl) rfl rfl ?_
  intro c X hN hI ret
  refine Tlv (lv' := [(0, .ref a)]) rfl ?_
  refine tw_aload_n X dX5_init_0 0 rfl rfl ?_
  refine tn_obj X wl_X5_1 (Nat.le_of_ble_eq_true rfl) (Nat.le_of_ble_eq_true rfl) dX5_init_1 ?_
  refine tw_aload_n X dX5_init_4 0 rfl rfl ?_
  refine tw_iconst X dX5_init_5 ?_
  refine tw_anew X hN (N := 0) rfl (by decide) wc_X5_7 (Nat.le_of_ble_eq_true rfl) (Nat.le_of_ble_eq_true rfl) dX5_init_6 (fun q1 => ?_)
  refine pf_X5_9 X (ws' := [(a, .inr (5, [.int (enc 0), .int (enc 0), .ref q1, .null])), (q1, gI G 0 (fun _ => none))]) 0 rfl (Nat.le_of_ble_eq_true rfl) rfl rfl dX5_init_9 rfl ?_
  refine tw_aload_n X dX5_init_12 0 rfl rfl ?_
  refine tw_iconst X dX5_init_13 ?_
  refine tw_anew X hN (N := 0) rfl (by decide) wc_X5_7 (Nat.le_of_ble_eq_true rfl) (Nat.le_of_ble_eq_true rfl) dX5_init_14 (fun q2 => ?_)
  refine pf_X5_15 X (ws' := [(a, .inr (5, [.int (enc 0), .int (enc 0), .ref q1, .ref q2])), (q1, gI G 0 (fun _ => none)), (q2, gI G 0 (fun _ => none))]) 0 rfl (Nat.le_of_ble_eq_true rfl) rfl rfl dX5_init_17 rfl ?_
  refine Tgcong (f' := fun _ => some 0) 1 rfl (fun j hj => absurd hj (Nat.not_lt_zero j)) (ws' := [(a, .inr (5, [.int (enc 0), .int (enc 0), .ref q1, .ref q2])), (q1, gI G 0 (fun _ => some 0)), (q2, gI G 0 (fun _ => none))]) rfl ?_
  refine Tgcong (f' := fun _ => some 0) 2 rfl (fun j hj => absurd hj (Nat.not_lt_zero j)) (ws' := [(a, .inr (5, [.int (enc 0), .int (enc 0), .ref q1, .ref q2])), (q1, gI G 0 (fun _ => some 0)), (q2, gI G 0 (fun _ => some 0))]) rfl ?_
  exact ret _ _ _ dX5_init_20 ⟨rfl, (fun i => ([a, q1, q2] : List Nat).getD i 0), rfl, rfl⟩
theorem WF0 : WF M0 200 := by
  refine ⟨fun k j => ?_, Int.le_refl _, ⟨Int.le_refl _, ?_, Int.le_refl _, ?_, fun r r0 r1 => absurd r1 ?_⟩, fun r => ?_, fun r r0 r1 => absurd r1 ?_, Int.le_refl _, ?_, Int.le_refl _, rfl, fun t t0 t1 => absurd t1 ?_, fun t _ => rfl⟩
  · show (-200 : Int) ≤ 0 ∧ (0 : Int) ≤ 200; decide
  · show (0 : Int) ≤ 20; decide
  · show (0 : Int) ≤ 10; decide
  · show ¬ r < 0; omega
  · show (0 : Int) ≤ 0 ∧ (0 : Int) ≤ 0 ∧ (0 : Int) ≤ 20 ∧ (0 : Int) ≤ 0 ∧ (0 : Int) ≤ 3; decide
  · show ¬ r < 0; omega
  · show (0 : Int) ≤ 12; decide
  · show ¬ t < 0; omega
