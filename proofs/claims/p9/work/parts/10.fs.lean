set_option maxHeartbeats 4000000 in
set_option maxRecDepth 100000 in
theorem c_Fs_init (l : Launch) (E : zG) (h0 : Nat) : zMet l y_Fs_init b_Fs_init 1 none 1 20 2 16 E [.ref h0] [(h0, .inr (0, [.null, .null, .int 0]))] (zQv E (S := Nat × Nat) (fun _ => True) (fun u => [(h0, .inr (0, [.ref u.1, .ref u.2, .int 0])), (u.1, zI E 8 (fun _ => 0)), (u.2, zI E 8 (fun _ => 0))])) := by
  refine zz_met (by decide +kernel) (Nat.le_of_ble_eq_true rfl) ?_
  intro p e s m below meth c A ls C hin hA hK hst hP hD hl
  obtain ⟨hx, hb, hr, hml, hown, hts, hlk⟩ := id C
  have hS : va_S A s.heap s.heap [] := va_S.rf
  have hl : lv_has ls 1 [(0, .ref h0)] := hl
  refine lv_aload_n hx hb d_Fs_init_0 rfl (lv_at hl 0 rfl) ?_
  refine zz_oi C wd_ml_Fs_3 wd_im_obj wd_cd_obj hl.1 (Nat.le_of_ble_eq_true rfl) (Nat.le_of_ble_eq_true rfl) d_Fs_init_1 ?_
  refine lv_aload_n hx hb d_Fs_init_4 rfl (lv_at hl 0 rfl) ?_
  refine lv_bipush (v := 8) hx hb d_Fs_init_5 (by decide) ?_
  refine zz_eqi (show (8 : Int32) = nI 8 from rfl) ?_
  refine zz_newI C hK hP hD hS hA (by decide) wd_ac_I (Nat.le_of_ble_eq_true rfl) (Nat.le_of_ble_eq_true rfl) d_Fs_init_7 (fun q_1 H hP hD hS => ?_)
  have hP : va_P E.1 vwCl [(h0, .inr (0, [.null, .null, .int 0])), (q_1, zI E 8 (fun _ => 0))] H := hP
  have hD : va_D A [(h0, .inr (0, [.null, .null, .int 0])), (q_1, zI E 8 (fun _ => 0))] := hD
  refine zz_put C hK hP hD hS fl_Fs_11 0 rfl rfl rfl (Nat.le_of_ble_eq_true rfl) d_Fs_init_9 (fun H locs hP hD hS => ?_)
  have hP : va_P E.1 vwCl [(h0, .inr (0, [.ref q_1, .null, .int 0])), (q_1, zI E 8 (fun _ => 0))] H := hP
  have hD : va_D A [(h0, .inr (0, [.ref q_1, .null, .int 0])), (q_1, zI E 8 (fun _ => 0))] := hD
  refine lv_aload_n hx hb d_Fs_init_12 rfl (lv_at hl 0 rfl) ?_
  refine lv_bipush (v := 8) hx hb d_Fs_init_13 (by decide) ?_
  refine zz_eqi (show (8 : Int32) = nI 8 from rfl) ?_
  refine zz_newI C hK hP hD hS hA (by decide) wd_ac_I (Nat.le_of_ble_eq_true rfl) (Nat.le_of_ble_eq_true rfl) d_Fs_init_15 (fun q_2 H hP hD hS => ?_)
  have hP : va_P E.1 vwCl [(h0, .inr (0, [.ref q_1, .null, .int 0])), (q_1, zI E 8 (fun _ => 0)), (q_2, zI E 8 (fun _ => 0))] H := hP
  have hD : va_D A [(h0, .inr (0, [.ref q_1, .null, .int 0])), (q_1, zI E 8 (fun _ => 0)), (q_2, zI E 8 (fun _ => 0))] := hD
  refine zz_put C hK hP hD hS fl_Fs_15 0 rfl rfl rfl (Nat.le_of_ble_eq_true rfl) d_Fs_init_17 (fun H locs hP hD hS => ?_)
  have hP : va_P E.1 vwCl [(h0, .inr (0, [.ref q_1, .ref q_2, .int 0])), (q_1, zI E 8 (fun _ => 0)), (q_2, zI E 8 (fun _ => 0))] H := hP
  have hD : va_D A [(h0, .inr (0, [.ref q_1, .ref q_2, .int 0])), (q_1, zI E 8 (fun _ => 0)), (q_2, zI E 8 (fun _ => 0))] := hD
  exact zz_retv C hS (q_1, q_2) (trivial) hP hD d_Fs_init_20

set_option maxHeartbeats 4000000 in
set_option maxRecDepth 100000 in
theorem c_Fs_forget (l : Launch) (E : zG) (h0 a1 a2 n1 n2 : Nat) (f1 f2 : Nat → Int32) (cn : Int32) : zMet l y_Fs_forget b_Fs_forget 1 none 0 0 0 0 E [.ref h0] [(h0, .inr (0, [.ref a1, .ref a2, .int cn])), (a1, zI E n1 f1), (a2, zI E n2 f2)] (zQv E (S := Unit) (fun _ => True) (fun _ => [(h0, .inr (0, [.ref a1, .ref a2, .int 0])), (a1, zI E n1 f1), (a2, zI E n2 f2)])) := by
  refine zz_met (by decide +kernel) (Nat.le_of_ble_eq_true rfl) ?_
  intro p e s m below meth c A ls C hin hA hK hst hP hD hl
  obtain ⟨hx, hb, hr, hml, hown, hts, hlk⟩ := id C
  have hS : va_S A s.heap s.heap [] := va_S.rf
  have hl : lv_has ls 1 [(0, .ref h0)] := hl
  refine lv_aload_n hx hb d_Fs_forget_0 rfl (lv_at hl 0 rfl) ?_
  refine lv_iconst (v := 0) hx hb d_Fs_forget_1 (by decide) ?_
  refine zz_put C hK hP hD hS fl_Fs_18 0 rfl rfl rfl (Nat.le_of_ble_eq_true rfl) d_Fs_forget_2 (fun H locs hP hD hS => ?_)
  have hP : va_P E.1 vwCl [(h0, .inr (0, [.ref a1, .ref a2, .int 0])), (a1, zI E n1 f1), (a2, zI E n2 f2)] H := hP
  have hD : va_D A [(h0, .inr (0, [.ref a1, .ref a2, .int 0])), (a1, zI E n1 f1), (a2, zI E n2 f2)] := hD
  exact zz_retv C hS () (trivial) hP hD d_Fs_forget_5

set_option maxHeartbeats 4000000 in
set_option maxRecDepth 100000 in
theorem c_Fs_isFound (l : Launch) (E : zG) (h0 a1 a2 n1 n2 : Nat) (f1 f2 : Nat → Int32) (cn : Int32) (k : Int32) : zMet l y_Fs_isFound b_Fs_isFound 2 (some .boolean) 0 0 0 0 E [.ref h0, .int k] [(h0, .inr (0, [.ref a1, .ref a2, .int cn])), (a1, zI E n1 f1), (a2, zI E n2 f2)] (zQi E (S := Unit) (fun r _ => r = if ¬ k < 0 ∧ ¬ cn ≤ k ∧ ¬ nI n1 ≤ k ∧ ¬ nI n2 ≤ k then 1 else 0) (fun _ => [(h0, .inr (0, [.ref a1, .ref a2, .int cn])), (a1, zI E n1 f1), (a2, zI E n2 f2)])) := by
  refine zz_met (by decide +kernel) (Nat.le_of_ble_eq_true rfl) ?_
  intro p e s m below meth c A ls C hin hA hK hst hP hD hl
  obtain ⟨hx, hb, hr, hml, hown, hts, hlk⟩ := id C
  have hS : va_S A s.heap s.heap [] := va_S.rf
  have hl : lv_has ls 2 [(0, .ref h0), (1, .int k)] := hl
  refine lv_iload_n hx hb d_Fs_isFound_0 rfl (lv_at hl 1 rfl) ?_
  refine lv_if_lt (tgt := 34) hx hb d_Fs_isFound_1 (by decide) (fun c_3 => ?_) (fun c_3 => ?_)
  · refine lv_iconst (v := 0) hx hb d_Fs_isFound_34 (by decide) ?_
    exact zz_reti C (rfl) hS () (by simp_all) hP hD d_Fs_isFound_35
  · refine lv_iload_n hx hb d_Fs_isFound_4 rfl (lv_at hl 1 rfl) ?_
    refine lv_aload_n hx hb d_Fs_isFound_5 rfl (lv_at hl 0 rfl) ?_
    refine zz_get C hK hP fl_Fs_18 0 rfl rfl d_Fs_isFound_6 ?_
    refine lv_icmp_ge (tgt := 34) hx hb d_Fs_isFound_9 (by decide) (fun c_4 => ?_) (fun c_4 => ?_)
    · refine lv_iconst (v := 0) hx hb d_Fs_isFound_34 (by decide) ?_
      exact zz_reti C (rfl) hS () (by simp_all) hP hD d_Fs_isFound_35
    · refine lv_iload_n hx hb d_Fs_isFound_12 rfl (lv_at hl 1 rfl) ?_
      refine lv_aload_n hx hb d_Fs_isFound_13 rfl (lv_at hl 0 rfl) ?_
      refine zz_get C hK hP fl_Fs_11 0 rfl rfl d_Fs_isFound_14 ?_
      refine zz_alenI C hK hP 1 rfl d_Fs_isFound_17 ?_
      refine lv_icmp_ge (tgt := 34) hx hb d_Fs_isFound_18 (by decide) (fun c_5 => ?_) (fun c_5 => ?_)
      · refine lv_iconst (v := 0) hx hb d_Fs_isFound_34 (by decide) ?_
        exact zz_reti C (rfl) hS () (by simp_all) hP hD d_Fs_isFound_35
      · refine lv_iload_n hx hb d_Fs_isFound_21 rfl (lv_at hl 1 rfl) ?_
        refine lv_aload_n hx hb d_Fs_isFound_22 rfl (lv_at hl 0 rfl) ?_
        refine zz_get C hK hP fl_Fs_15 0 rfl rfl d_Fs_isFound_23 ?_
        refine zz_alenI C hK hP 2 rfl d_Fs_isFound_26 ?_
        refine lv_icmp_ge (tgt := 34) hx hb d_Fs_isFound_27 (by decide) (fun c_6 => ?_) (fun c_6 => ?_)
        · refine lv_iconst (v := 0) hx hb d_Fs_isFound_34 (by decide) ?_
          exact zz_reti C (rfl) hS () (by simp_all) hP hD d_Fs_isFound_35
        · refine lv_iconst (v := 1) hx hb d_Fs_isFound_30 (by decide) ?_
          refine lv_goto (tgt := 35) hx hb d_Fs_isFound_31 (by decide) ?_
          exact zz_reti C (rfl) hS () (by simp_all) hP hD d_Fs_isFound_35

set_option maxHeartbeats 4000000 in
set_option maxRecDepth 100000 in
theorem c_Fs_first (l : Launch) (E : zG) (h0 a1 a2 n1 n2 : Nat) (f1 f2 : Nat → Int32) (cn : Int32) (k : Int32) (hn1 : n1 < 2 ^ 31) (hn2 : n2 < 2 ^ 31) : zMet l y_Fs_first b_Fs_first 2 (some .int) 1 21 0 0 E [.ref h0, .int k] [(h0, .inr (0, [.ref a1, .ref a2, .int cn])), (a1, zI E n1 f1), (a2, zI E n2 f2)] (zQi E (S := Unit) (fun r _ => r = if ¬ k < 0 ∧ ¬ cn ≤ k ∧ ¬ nI n1 ≤ k ∧ ¬ nI n2 ≤ k then f1 k.toNatClampNeg else (-2)) (fun _ => [(h0, .inr (0, [.ref a1, .ref a2, .int cn])), (a1, zI E n1 f1), (a2, zI E n2 f2)])) := by
  refine zz_met (by decide +kernel) (Nat.le_of_ble_eq_true rfl) ?_
  intro p e s m below meth c A ls C hin hA hK hst hP hD hl
  obtain ⟨hx, hb, hr, hml, hown, hts, hlk⟩ := id C
  have hS : va_S A s.heap s.heap [] := va_S.rf
  have hl : lv_has ls 2 [(0, .ref h0), (1, .int k)] := hl
  refine lv_aload_n hx hb d_Fs_first_0 rfl (lv_at hl 0 rfl) ?_
  refine lv_iload_n hx hb d_Fs_first_1 rfl (lv_at hl 1 rfl) ?_
  refine zz_goi (wr := []) [0, 1, 2] [] rfl rfl (by decide) (by decide) hA hP hD hS (zz_runV (wc := [(h0, .inr (0, [.ref a1, .ref a2, .int cn])), (a1, zI E n1 f1), (a2, zI E n2 f2)]) (As := [.int k]) (rest := []) C (c_Fs_isFound l E h0 a1 a2 n1 n2 f1 f2 cn k) ym_Fs_isFound wd_ml_Fs_28 wd_im_Fs_isFound wd_se_Fs_isFound [0, 1, 2] (by decide) rfl hA hK hst hP hD hS (ci := 0) (q0 := 0) rfl rfl rfl rfl hl.1 rfl (Nat.le_of_ble_eq_true rfl) ⟨Nat.le_of_ble_eq_true rfl, Nat.le_of_ble_eq_true rfl⟩ ⟨Nat.le_of_ble_eq_true rfl, Nat.le_of_ble_eq_true rfl⟩ d_Fs_first_2) (fun r_7 u H locs hw hP hD hS => ?_)
  have hP : va_P E.1 vwCl [(h0, .inr (0, [.ref a1, .ref a2, .int cn])), (a1, zI E n1 f1), (a2, zI E n2 f2)] H := hP
  have hD : va_D A [(h0, .inr (0, [.ref a1, .ref a2, .int cn])), (a1, zI E n1 f1), (a2, zI E n2 f2)] := hD
  refine zz_eqi (y := if ¬ k < 0 ∧ ¬ cn ≤ k ∧ ¬ nI n1 ≤ k ∧ ¬ nI n2 ≤ k then 1 else 0) (hw) ?_
  refine lv_if_eq (tgt := 17) hx hb d_Fs_first_5 (by decide) (fun c_8 => ?_) (fun c_8 => ?_)
  · refine lv_bipush (v := (-2)) hx hb d_Fs_first_17 (by decide) ?_
    exact zz_reti C (rfl) hS () (by rw [if_neg (zz_if0 c_8)]) hP hD d_Fs_first_19
  · refine lv_aload_n hx hb d_Fs_first_8 rfl (lv_at hl 0 rfl) ?_
    refine zz_get C hK hP fl_Fs_11 0 rfl rfl d_Fs_first_9 ?_
    refine lv_iload_n hx hb d_Fs_first_12 rfl (lv_at hl 1 rfl) ?_
    refine zz_iald C hK hP 1 rfl (zz_vp (zz_if1 c_8).1 (zz_if1 c_8).2.2.1 hn1) d_Fs_first_13 ?_
    refine lv_goto (tgt := 19) hx hb d_Fs_first_14 (by decide) ?_
    exact zz_reti C (rfl) hS () (by rw [if_pos (zz_if1 c_8)]) hP hD d_Fs_first_19

set_option maxHeartbeats 4000000 in
set_option maxRecDepth 100000 in
theorem c_Fs_second (l : Launch) (E : zG) (h0 a1 a2 n1 n2 : Nat) (f1 f2 : Nat → Int32) (cn : Int32) (k : Int32) (hn1 : n1 < 2 ^ 31) (hn2 : n2 < 2 ^ 31) : zMet l y_Fs_second b_Fs_second 2 (some .int) 1 21 0 0 E [.ref h0, .int k] [(h0, .inr (0, [.ref a1, .ref a2, .int cn])), (a1, zI E n1 f1), (a2, zI E n2 f2)] (zQi E (S := Unit) (fun r _ => r = if ¬ k < 0 ∧ ¬ cn ≤ k ∧ ¬ nI n1 ≤ k ∧ ¬ nI n2 ≤ k then f2 k.toNatClampNeg else (-2)) (fun _ => [(h0, .inr (0, [.ref a1, .ref a2, .int cn])), (a1, zI E n1 f1), (a2, zI E n2 f2)])) := by
  refine zz_met (by decide +kernel) (Nat.le_of_ble_eq_true rfl) ?_
  intro p e s m below meth c A ls C hin hA hK hst hP hD hl
  obtain ⟨hx, hb, hr, hml, hown, hts, hlk⟩ := id C
  have hS : va_S A s.heap s.heap [] := va_S.rf
  have hl : lv_has ls 2 [(0, .ref h0), (1, .int k)] := hl
  refine lv_aload_n hx hb d_Fs_second_0 rfl (lv_at hl 0 rfl) ?_
  refine lv_iload_n hx hb d_Fs_second_1 rfl (lv_at hl 1 rfl) ?_
  refine zz_goi (wr := []) [0, 1, 2] [] rfl rfl (by decide) (by decide) hA hP hD hS (zz_runV (wc := [(h0, .inr (0, [.ref a1, .ref a2, .int cn])), (a1, zI E n1 f1), (a2, zI E n2 f2)]) (As := [.int k]) (rest := []) C (c_Fs_isFound l E h0 a1 a2 n1 n2 f1 f2 cn k) ym_Fs_isFound wd_ml_Fs_28 wd_im_Fs_isFound wd_se_Fs_isFound [0, 1, 2] (by decide) rfl hA hK hst hP hD hS (ci := 0) (q0 := 0) rfl rfl rfl rfl hl.1 rfl (Nat.le_of_ble_eq_true rfl) ⟨Nat.le_of_ble_eq_true rfl, Nat.le_of_ble_eq_true rfl⟩ ⟨Nat.le_of_ble_eq_true rfl, Nat.le_of_ble_eq_true rfl⟩ d_Fs_second_2) (fun r_9 u H locs hw hP hD hS => ?_)
  have hP : va_P E.1 vwCl [(h0, .inr (0, [.ref a1, .ref a2, .int cn])), (a1, zI E n1 f1), (a2, zI E n2 f2)] H := hP
  have hD : va_D A [(h0, .inr (0, [.ref a1, .ref a2, .int cn])), (a1, zI E n1 f1), (a2, zI E n2 f2)] := hD
  refine zz_eqi (y := if ¬ k < 0 ∧ ¬ cn ≤ k ∧ ¬ nI n1 ≤ k ∧ ¬ nI n2 ≤ k then 1 else 0) (hw) ?_
  refine lv_if_eq (tgt := 17) hx hb d_Fs_second_5 (by decide) (fun c_10 => ?_) (fun c_10 => ?_)
  · refine lv_bipush (v := (-2)) hx hb d_Fs_second_17 (by decide) ?_
    exact zz_reti C (rfl) hS () (by rw [if_neg (zz_if0 c_10)]) hP hD d_Fs_second_19
  · refine lv_aload_n hx hb d_Fs_second_8 rfl (lv_at hl 0 rfl) ?_
    refine zz_get C hK hP fl_Fs_15 0 rfl rfl d_Fs_second_9 ?_
    refine lv_iload_n hx hb d_Fs_second_12 rfl (lv_at hl 1 rfl) ?_
    refine zz_iald C hK hP 2 rfl (zz_vp (zz_if1 c_10).1 (zz_if1 c_10).2.2.2 hn2) d_Fs_second_13 ?_
    refine lv_goto (tgt := 19) hx hb d_Fs_second_14 (by decide) ?_
    exact zz_reti C (rfl) hS () (by rw [if_pos (zz_if1 c_10)]) hP hD d_Fs_second_19

set_option maxHeartbeats 4000000 in
set_option maxRecDepth 100000 in
theorem c_Fs_put (l : Launch) (E : zG) (h0 a1 a2 n1 n2 : Nat) (f1 f2 : Nat → Int32) (cn : Int32) (k x y : Int32) (hn1 : n1 < 2 ^ 31) (hn2 : n2 < 2 ^ 31) : zMet l y_Fs_put b_Fs_put 4 none 1 21 0 0 E [.ref h0, .int k, .int x, .int y] [(h0, .inr (0, [.ref a1, .ref a2, .int cn])), (a1, zI E n1 f1), (a2, zI E n2 f2)] (zQv E (S := (Nat → Int32) × (Nat → Int32)) (fun u => u = if ¬ k < 0 ∧ ¬ cn ≤ k ∧ ¬ nI n1 ≤ k ∧ ¬ nI n2 ≤ k then (upd f1 k.toNatClampNeg x, upd f2 k.toNatClampNeg y) else (f1, f2)) (fun u => [(h0, .inr (0, [.ref a1, .ref a2, .int cn])), (a1, zI E n1 u.1), (a2, zI E n2 u.2)])) := by
  refine zz_met (by decide +kernel) (Nat.le_of_ble_eq_true rfl) ?_
  intro p e s m below meth c A ls C hin hA hK hst hP hD hl
  obtain ⟨hx, hb, hr, hml, hown, hts, hlk⟩ := id C
  have hS : va_S A s.heap s.heap [] := va_S.rf
  have hl : lv_has ls 4 [(0, .ref h0), (1, .int k), (2, .int x), (3, .int y)] := hl
  refine lv_aload_n hx hb d_Fs_put_0 rfl (lv_at hl 0 rfl) ?_
  refine lv_iload_n hx hb d_Fs_put_1 rfl (lv_at hl 1 rfl) ?_
  refine zz_goi (wr := []) [0, 1, 2] [] rfl rfl (by decide) (by decide) hA hP hD hS (zz_runV (wc := [(h0, .inr (0, [.ref a1, .ref a2, .int cn])), (a1, zI E n1 f1), (a2, zI E n2 f2)]) (As := [.int k]) (rest := []) C (c_Fs_isFound l E h0 a1 a2 n1 n2 f1 f2 cn k) ym_Fs_isFound wd_ml_Fs_28 wd_im_Fs_isFound wd_se_Fs_isFound [0, 1, 2] (by decide) rfl hA hK hst hP hD hS (ci := 0) (q0 := 0) rfl rfl rfl rfl hl.1 rfl (Nat.le_of_ble_eq_true rfl) ⟨Nat.le_of_ble_eq_true rfl, Nat.le_of_ble_eq_true rfl⟩ ⟨Nat.le_of_ble_eq_true rfl, Nat.le_of_ble_eq_true rfl⟩ d_Fs_put_2) (fun r_11 u H locs hw hP hD hS => ?_)
  have hP : va_P E.1 vwCl [(h0, .inr (0, [.ref a1, .ref a2, .int cn])), (a1, zI E n1 f1), (a2, zI E n2 f2)] H := hP
  have hD : va_D A [(h0, .inr (0, [.ref a1, .ref a2, .int cn])), (a1, zI E n1 f1), (a2, zI E n2 f2)] := hD
  refine zz_eqi (y := if ¬ k < 0 ∧ ¬ cn ≤ k ∧ ¬ nI n1 ≤ k ∧ ¬ nI n2 ≤ k then 1 else 0) (hw) ?_
  refine lv_if_eq (tgt := 22) hx hb d_Fs_put_5 (by decide) (fun c_12 => ?_) (fun c_12 => ?_)
  · exact zz_retv C hS (f1, f2) (by rw [if_neg (zz_if0 c_12)]) hP hD d_Fs_put_22
  · refine lv_aload_n hx hb d_Fs_put_8 rfl (lv_at hl 0 rfl) ?_
    refine zz_get C hK hP fl_Fs_11 0 rfl rfl d_Fs_put_9 ?_
    refine lv_iload_n hx hb d_Fs_put_12 rfl (lv_at hl 1 rfl) ?_
    refine lv_iload_n hx hb d_Fs_put_13 rfl (lv_at hl 2 rfl) ?_
    refine zz_iast C hK hP hD hS 1 rfl (zz_vp (zz_if1 c_12).1 (zz_if1 c_12).2.2.1 hn1) d_Fs_put_14 (fun H locs hP hD hS => ?_)
    have hP : va_P E.1 vwCl [(h0, .inr (0, [.ref a1, .ref a2, .int cn])), (a1, zI E n1 (upd f1 k.toNatClampNeg x)), (a2, zI E n2 f2)] H := hP
    have hD : va_D A [(h0, .inr (0, [.ref a1, .ref a2, .int cn])), (a1, zI E n1 (upd f1 k.toNatClampNeg x)), (a2, zI E n2 f2)] := hD
    refine lv_aload_n hx hb d_Fs_put_15 rfl (lv_at hl 0 rfl) ?_
    refine zz_get C hK hP fl_Fs_15 0 rfl rfl d_Fs_put_16 ?_
    refine lv_iload_n hx hb d_Fs_put_19 rfl (lv_at hl 1 rfl) ?_
    refine lv_iload_n hx hb d_Fs_put_20 rfl (lv_at hl 3 rfl) ?_
    refine zz_iast C hK hP hD hS 2 rfl (zz_vp (zz_if1 c_12).1 (zz_if1 c_12).2.2.2 hn2) d_Fs_put_21 (fun H locs hP hD hS => ?_)
    have hP : va_P E.1 vwCl [(h0, .inr (0, [.ref a1, .ref a2, .int cn])), (a1, zI E n1 (upd f1 k.toNatClampNeg x)), (a2, zI E n2 (upd f2 k.toNatClampNeg y))] H := hP
    have hD : va_D A [(h0, .inr (0, [.ref a1, .ref a2, .int cn])), (a1, zI E n1 (upd f1 k.toNatClampNeg x)), (a2, zI E n2 (upd f2 k.toNatClampNeg y))] := hD
    exact zz_retv C hS (upd f1 k.toNatClampNeg x, upd f2 k.toNatClampNeg y) (by rw [if_pos (zz_if1 c_12)]) hP hD d_Fs_put_22

set_option maxHeartbeats 4000000 in
set_option maxRecDepth 100000 in
theorem c_Fs_makeRoom_keep (l : Launch) (E : zG) (h0 a1 a2 n1 n2 : Nat) (f1 f2 : Nat → Int32) (cn : Int32) (k : Nat) (hk : k ≤ n1) (hn1 : n1 < 2 ^ 31) : zMet l y_Fs_makeRoom b_Fs_makeRoom 2 none 1 21 0 0 E [.ref h0, .int (nI k)] [(h0, .inr (0, [.ref a1, .ref a2, .int cn])), (a1, zI E n1 f1), (a2, zI E n2 f2)] (zQv E (S := Unit) (fun _ => True) (fun _ => [(h0, .inr (0, [.ref a1, .ref a2, .int (nI k)])), (a1, zI E n1 f1), (a2, zI E n2 f2)])) := by
  refine zz_met (by decide +kernel) (Nat.le_of_ble_eq_true rfl) ?_
  intro p e s m below meth c A ls C hin hA hK hst hP hD hl
  obtain ⟨hx, hb, hr, hml, hown, hts, hlk⟩ := id C
  have hS : va_S A s.heap s.heap [] := va_S.rf
  have hl : lv_has ls 2 [(0, .ref h0), (1, .int (nI k))] := hl
  refine lv_iload_n hx hb d_Fs_makeRoom_0 rfl (lv_at hl 1 rfl) ?_
  refine lv_aload_n hx hb d_Fs_makeRoom_1 rfl (lv_at hl 0 rfl) ?_
  refine zz_get C hK hP fl_Fs_11 0 rfl rfl d_Fs_makeRoom_2 ?_
  refine zz_alenI C hK hP 1 rfl d_Fs_makeRoom_5 ?_
  refine lv_icmp_le (tgt := 30) hx hb d_Fs_makeRoom_6 (by decide) (fun c_13 => ?_) (fun c_13 => ?_)
  · refine lv_aload_n hx hb d_Fs_makeRoom_30 rfl (lv_at hl 0 rfl) ?_
    refine lv_iload_n hx hb d_Fs_makeRoom_31 rfl (lv_at hl 1 rfl) ?_
    refine lv_aload_n hx hb d_Fs_makeRoom_32 rfl (lv_at hl 0 rfl) ?_
    refine zz_get C hK hP fl_Fs_11 0 rfl rfl d_Fs_makeRoom_33 ?_
    refine zz_alenI C hK hP 1 rfl d_Fs_makeRoom_36 ?_
    refine zz_min C wd_ml_Fs_22 wd_st_min wd_in_math wd_cd_min hl.1 (Nat.le_of_ble_eq_true rfl) (Nat.le_of_ble_eq_true rfl) (Nat.le_of_ble_eq_true rfl) (Nat.le_of_ble_eq_true rfl) d_Fs_makeRoom_37 ?_
    refine zz_eqi (y := nI k) (zz_minL hk hn1) ?_
    refine zz_put C hK hP hD hS fl_Fs_18 0 rfl rfl rfl (Nat.le_of_ble_eq_true rfl) d_Fs_makeRoom_40 (fun H locs hP hD hS => ?_)
    have hP : va_P E.1 vwCl [(h0, .inr (0, [.ref a1, .ref a2, .int (nI k)])), (a1, zI E n1 f1), (a2, zI E n2 f2)] H := hP
    have hD : va_D A [(h0, .inr (0, [.ref a1, .ref a2, .int (nI k)])), (a1, zI E n1 f1), (a2, zI E n2 f2)] := hD
    exact zz_retv C hS () (trivial) hP hD d_Fs_makeRoom_43
  · exact absurd (nI_le hk hn1) c_13

set_option maxHeartbeats 4000000 in
set_option maxRecDepth 100000 in
theorem c_Fs_makeRoom_new (l : Launch) (E : zG) (h0 a1 a2 n1 n2 : Nat) (f1 f2 : Nat → Int32) (cn : Int32) (k : Nat) (hk : n1 < k) (hk2 : k ≤ 10000) : zMet l y_Fs_makeRoom b_Fs_makeRoom 2 none 1 21 2 (k + k) E [.ref h0, .int (nI k)] [(h0, .inr (0, [.ref a1, .ref a2, .int cn])), (a1, zI E n1 f1), (a2, zI E n2 f2)] (zQv E (S := Nat × Nat) (fun _ => True) (fun u => [(h0, .inr (0, [.ref u.1, .ref u.2, .int (nI k)])), (u.1, zI E k (fun _ => 0)), (u.2, zI E k (fun _ => 0))])) := by
  refine zz_met (by decide +kernel) (Nat.le_of_ble_eq_true rfl) ?_
  intro p e s m below meth c A ls C hin hA hK hst hP hD hl
  obtain ⟨hx, hb, hr, hml, hown, hts, hlk⟩ := id C
  have hS : va_S A s.heap s.heap [] := va_S.rf
  have hl : lv_has ls 2 [(0, .ref h0), (1, .int (nI k))] := hl
  refine lv_iload_n hx hb d_Fs_makeRoom_0 rfl (lv_at hl 1 rfl) ?_
  refine lv_aload_n hx hb d_Fs_makeRoom_1 rfl (lv_at hl 0 rfl) ?_
  refine zz_get C hK hP fl_Fs_11 0 rfl rfl d_Fs_makeRoom_2 ?_
  refine zz_alenI C hK hP 1 rfl d_Fs_makeRoom_5 ?_
  refine lv_icmp_le (tgt := 30) hx hb d_Fs_makeRoom_6 (by decide) (fun c_14 => ?_) (fun c_14 => ?_)
  · exact absurd c_14 (nI_ge hk (by omega))
  · refine lv_iload_n hx hb d_Fs_makeRoom_9 rfl (lv_at hl 1 rfl) ?_
    refine lv_sipush (v := 10000) hx hb d_Fs_makeRoom_10 (by decide) ?_
    refine lv_icmp_gt (tgt := 30) hx hb d_Fs_makeRoom_13 (by decide) (fun c_15 => ?_) (fun c_15 => ?_)
    · exact absurd (nI_le (b := 10000) hk2 (by decide)) (zz_nle c_15)
    · refine lv_aload_n hx hb d_Fs_makeRoom_16 rfl (lv_at hl 0 rfl) ?_
      refine lv_iload_n hx hb d_Fs_makeRoom_17 rfl (lv_at hl 1 rfl) ?_
      refine zz_newI C hK hP hD hS hA (by omega) wd_ac_I (by dsimp only [zR]; omega) (by dsimp only [zR]; omega) d_Fs_makeRoom_18 (fun q_16 H hP hD hS => ?_)
      have hP : va_P E.1 vwCl [(h0, .inr (0, [.ref a1, .ref a2, .int cn])), (a1, zI E n1 f1), (a2, zI E n2 f2), (q_16, zI E k (fun _ => 0))] H := hP
      have hD : va_D A [(h0, .inr (0, [.ref a1, .ref a2, .int cn])), (a1, zI E n1 f1), (a2, zI E n2 f2), (q_16, zI E k (fun _ => 0))] := hD
      refine zz_put C hK hP hD hS fl_Fs_11 0 rfl rfl rfl (Nat.le_of_ble_eq_true rfl) d_Fs_makeRoom_20 (fun H locs hP hD hS => ?_)
      have hP : va_P E.1 vwCl [(h0, .inr (0, [.ref q_16, .ref a2, .int cn])), (a1, zI E n1 f1), (a2, zI E n2 f2), (q_16, zI E k (fun _ => 0))] H := hP
      have hD : va_D A [(h0, .inr (0, [.ref q_16, .ref a2, .int cn])), (a1, zI E n1 f1), (a2, zI E n2 f2), (q_16, zI E k (fun _ => 0))] := hD
      refine lv_aload_n hx hb d_Fs_makeRoom_23 rfl (lv_at hl 0 rfl) ?_
      refine lv_iload_n hx hb d_Fs_makeRoom_24 rfl (lv_at hl 1 rfl) ?_
      refine zz_newI C hK hP hD hS hA (by omega) wd_ac_I (by dsimp only [zR]; omega) (by dsimp only [zR]; omega) d_Fs_makeRoom_25 (fun q_17 H hP hD hS => ?_)
      have hP : va_P E.1 vwCl [(h0, .inr (0, [.ref q_16, .ref a2, .int cn])), (a1, zI E n1 f1), (a2, zI E n2 f2), (q_16, zI E k (fun _ => 0)), (q_17, zI E k (fun _ => 0))] H := hP
      have hD : va_D A [(h0, .inr (0, [.ref q_16, .ref a2, .int cn])), (a1, zI E n1 f1), (a2, zI E n2 f2), (q_16, zI E k (fun _ => 0)), (q_17, zI E k (fun _ => 0))] := hD
      refine zz_put C hK hP hD hS fl_Fs_15 0 rfl rfl rfl (Nat.le_of_ble_eq_true rfl) d_Fs_makeRoom_27 (fun H locs hP hD hS => ?_)
      have hP : va_P E.1 vwCl [(h0, .inr (0, [.ref q_16, .ref q_17, .int cn])), (a1, zI E n1 f1), (a2, zI E n2 f2), (q_16, zI E k (fun _ => 0)), (q_17, zI E k (fun _ => 0))] H := hP
      have hD : va_D A [(h0, .inr (0, [.ref q_16, .ref q_17, .int cn])), (a1, zI E n1 f1), (a2, zI E n2 f2), (q_16, zI E k (fun _ => 0)), (q_17, zI E k (fun _ => 0))] := hD
      refine lv_aload_n hx hb d_Fs_makeRoom_30 rfl (lv_at hl 0 rfl) ?_
      refine lv_iload_n hx hb d_Fs_makeRoom_31 rfl (lv_at hl 1 rfl) ?_
      refine lv_aload_n hx hb d_Fs_makeRoom_32 rfl (lv_at hl 0 rfl) ?_
      refine zz_get C hK hP fl_Fs_11 0 rfl rfl d_Fs_makeRoom_33 ?_
      refine zz_alenI C hK hP 3 rfl d_Fs_makeRoom_36 ?_
      refine zz_min C wd_ml_Fs_22 wd_st_min wd_in_math wd_cd_min hl.1 (Nat.le_of_ble_eq_true rfl) (Nat.le_of_ble_eq_true rfl) (by dsimp only [zR]; omega) (by dsimp only [zR]; omega) d_Fs_makeRoom_37 ?_
      refine zz_eqi (y := nI k) (zz_minS k) ?_
      refine zz_put C hK hP hD hS fl_Fs_18 0 rfl rfl rfl (Nat.le_of_ble_eq_true rfl) d_Fs_makeRoom_40 (fun H locs hP hD hS => ?_)
      have hP : va_P E.1 vwCl [(h0, .inr (0, [.ref q_16, .ref q_17, .int (nI k)])), (a1, zI E n1 f1), (a2, zI E n2 f2), (q_16, zI E k (fun _ => 0)), (q_17, zI E k (fun _ => 0))] H := hP
      have hD : va_D A [(h0, .inr (0, [.ref q_16, .ref q_17, .int (nI k)])), (a1, zI E n1 f1), (a2, zI E n2 f2), (q_16, zI E k (fun _ => 0)), (q_17, zI E k (fun _ => 0))] := hD
      have hP := hP.sub (ws' := [(h0, .inr (0, [.ref q_16, .ref q_17, .int (nI k)])), (q_16, zI E k (fun _ => 0)), (q_17, zI E k (fun _ => 0))]) [0, 3, 4] rfl
      have hD := hD.sub (ws' := [(h0, .inr (0, [.ref q_16, .ref q_17, .int (nI k)])), (q_16, zI E k (fun _ => 0)), (q_17, zI E k (fun _ => 0))]) [0, 3, 4] (by decide) rfl
      refine W.widen (k := 2) (n := k + k) (by omega) (by omega) ?_
      exact zz_retv C hS (q_16, q_17) (trivial) hP hD d_Fs_makeRoom_43
