set_option maxHeartbeats 4000000 in
set_option maxRecDepth 100000 in
theorem c_Rv_init (l : Launch) (E : zG) (h0 : Nat) : zMet l y_Rv_init b_Rv_init 1 none 2 40 2 16 E [.ref h0] [(h0, .inr (2, [.null, .null, .int 0, .int 0]))] (zQv E (S := Nat × Nat) (fun _ => True) (fun u => [(h0, .inr (2, [.ref u.1, .ref u.2, .int 0, .int 0])), (u.1, zI E 8 (fun _ => 0)), (u.2, zI E 8 (fun _ => 0))])) := by
  refine zz_met (by decide +kernel) (Nat.le_of_ble_eq_true rfl) ?_
  intro p e s m below meth c A ls C hin hA hK hst hP hD hl
  obtain ⟨hx, hb, hr, hml, hown, hts, hlk⟩ := id C
  have hS : va_S A s.heap s.heap [] := va_S.rf
  have hl : lv_has ls 1 [(0, .ref h0)] := hl
  refine lv_aload_n hx hb d_Rv_init_0 rfl (lv_at hl 0 rfl) ?_
  refine zz_gov (wr := []) [0] [] rfl rfl (by decide) (by decide) hA hP hD hS (zz_runIN (wc := [(h0, .inr (2, [.null, .null, .int 0, .int 0]))]) (As := []) (rest := []) C (c_Pz_init l E h0 2 [.null, .null, .int 0, .int 0]) ym_Pz_init wd_mn_Rv_3 wd_im_Pz_init rfl [0] (by decide) rfl hA hK hst hP hD hS rfl hl.1 rfl (Nat.le_of_ble_eq_true rfl) ⟨Nat.le_of_ble_eq_true rfl, Nat.le_of_ble_eq_true rfl⟩ ⟨Nat.le_of_ble_eq_true rfl, Nat.le_of_ble_eq_true rfl⟩ d_Rv_init_1) (fun u H locs hw hP hD hS => ?_)
  have hP : va_P E.1 vwCl [(h0, .inr (2, [.null, .null, .int 0, .int 0]))] H := hP
  have hD : va_D A [(h0, .inr (2, [.null, .null, .int 0, .int 0]))] := hD
  refine lv_aload_n hx hb d_Rv_init_4 rfl (lv_at hl 0 rfl) ?_
  refine lv_bipush (v := 8) hx hb d_Rv_init_5 (by decide) ?_
  refine zz_eqi (show (8 : Int32) = nI 8 from rfl) ?_
  refine zz_newI C hK hP hD hS hA (by decide) wd_ac_I (Nat.le_of_ble_eq_true rfl) (Nat.le_of_ble_eq_true rfl) d_Rv_init_7 (fun q_2 H hP hD hS => ?_)
  have hP : va_P E.1 vwCl [(h0, .inr (2, [.null, .null, .int 0, .int 0])), (q_2, zI E 8 (fun _ => 0))] H := hP
  have hD : va_D A [(h0, .inr (2, [.null, .null, .int 0, .int 0])), (q_2, zI E 8 (fun _ => 0))] := hD
  refine zz_putF C hin hK hP hD hS fl_Rv_11 (fun q h => by cases h; rfl) 0 rfl rfl rfl (Nat.le_of_ble_eq_true rfl) d_Rv_init_9 (fun H locs hP hD hS => ?_)
  have hP : va_P E.1 vwCl [(h0, .inr (2, [.ref q_2, .null, .int 0, .int 0])), (q_2, zI E 8 (fun _ => 0))] H := hP
  have hD : va_D A [(h0, .inr (2, [.ref q_2, .null, .int 0, .int 0])), (q_2, zI E 8 (fun _ => 0))] := hD
  refine lv_aload_n hx hb d_Rv_init_12 rfl (lv_at hl 0 rfl) ?_
  refine lv_bipush (v := 8) hx hb d_Rv_init_13 (by decide) ?_
  refine zz_eqi (show (8 : Int32) = nI 8 from rfl) ?_
  refine zz_newI C hK hP hD hS hA (by decide) wd_ac_I (Nat.le_of_ble_eq_true rfl) (Nat.le_of_ble_eq_true rfl) d_Rv_init_15 (fun q_3 H hP hD hS => ?_)
  have hP : va_P E.1 vwCl [(h0, .inr (2, [.ref q_2, .null, .int 0, .int 0])), (q_2, zI E 8 (fun _ => 0)), (q_3, zI E 8 (fun _ => 0))] H := hP
  have hD : va_D A [(h0, .inr (2, [.ref q_2, .null, .int 0, .int 0])), (q_2, zI E 8 (fun _ => 0)), (q_3, zI E 8 (fun _ => 0))] := hD
  refine zz_putF C hin hK hP hD hS fl_Rv_15 (fun q h => by cases h; rfl) 0 rfl rfl rfl (Nat.le_of_ble_eq_true rfl) d_Rv_init_17 (fun H locs hP hD hS => ?_)
  have hP : va_P E.1 vwCl [(h0, .inr (2, [.ref q_2, .ref q_3, .int 0, .int 0])), (q_2, zI E 8 (fun _ => 0)), (q_3, zI E 8 (fun _ => 0))] H := hP
  have hD : va_D A [(h0, .inr (2, [.ref q_2, .ref q_3, .int 0, .int 0])), (q_2, zI E 8 (fun _ => 0)), (q_3, zI E 8 (fun _ => 0))] := hD
  exact zz_retv C hS (q_2, q_3) (trivial) hP hD d_Rv_init_20

set_option maxHeartbeats 4000000 in
set_option maxRecDepth 100000 in
theorem c_Rv_clear (l : Launch) (E : zG) (h0 c1 c2 : Nat) (fL fN : Nat → Int32) (bo : Int32) (tt : Int32) : zMet l y_Rv_clear b_Rv_clear 1 none 1 23 0 0 E [.ref h0] [(h0, .inr (2, [.ref c1, .ref c2, .int tt, .int bo])), (c1, zI E 8 fL), (c2, zI E 8 fN)] (zQv E (S := (Nat → Int32) × (Nat → Int32)) (fun u => (∀ j, j < 8 → u.1 j = -1) ∧ (∀ j, j < 8 → u.2 j = 0)) (fun u => [(h0, .inr (2, [.ref c1, .ref c2, .int 0, .int 0])), (c1, zI E 8 u.1), (c2, zI E 8 u.2)])) := by
  refine zz_met (by decide +kernel) (Nat.le_of_ble_eq_true rfl) ?_
  intro p e s m below meth c A ls C hin hA hK hst hP hD hl
  obtain ⟨hx, hb, hr, hml, hown, hts, hlk⟩ := id C
  have hS : va_S A s.heap s.heap [] := va_S.rf
  have hl : lv_has ls 1 [(0, .ref h0)] := hl
  refine lv_aload_n hx hb d_Rv_clear_0 rfl (lv_at hl 0 rfl) ?_
  refine zz_get C hK hP fl_Rv_11 0 rfl rfl d_Rv_clear_1 ?_
  refine lv_iconst (v := (-1)) hx hb d_Rv_clear_4 (by decide) ?_
  refine zz_gov (wr := [(h0, .inr (2, [.ref c1, .ref c2, .int tt, .int bo])), (c2, zI E 8 fN)]) [1] [0, 2] rfl rfl (by decide) (by decide) hA hP hD hS (zz_runS (wc := [(c1, zI E 8 fL)]) (As := [.ref c1, .int (-1)]) (rest := []) C (c_Ar_fill l E c1 8 fL (-1) (by decide)) ym_Ar_fill wd_ml_Rv_18 wd_st_Ar_fill [1] (by decide) rfl hA hK hst hP hD hS rfl hl.1 rfl (Nat.le_of_ble_eq_true rfl) ⟨Nat.le_of_ble_eq_true rfl, Nat.le_of_ble_eq_true rfl⟩ ⟨Nat.le_of_ble_eq_true rfl, Nat.le_of_ble_eq_true rfl⟩ d_Rv_clear_5) (fun u1 H locs h1 hP hD hS => ?_)
  have hP : va_P E.1 vwCl [(h0, .inr (2, [.ref c1, .ref c2, .int tt, .int bo])), (c2, zI E 8 fN), (c1, zI E 8 u1)] H := hP
  have hD : va_D A [(h0, .inr (2, [.ref c1, .ref c2, .int tt, .int bo])), (c2, zI E 8 fN), (c1, zI E 8 u1)] := hD
  refine lv_aload_n hx hb d_Rv_clear_8 rfl (lv_at hl 0 rfl) ?_
  refine zz_get C hK hP fl_Rv_15 0 rfl rfl d_Rv_clear_9 ?_
  refine lv_iconst (v := 0) hx hb d_Rv_clear_12 (by decide) ?_
  refine zz_gov (wr := [(h0, .inr (2, [.ref c1, .ref c2, .int tt, .int bo])), (c1, zI E 8 u1)]) [1] [0, 2] rfl rfl (by decide) (by decide) hA hP hD hS (zz_runS (wc := [(c2, zI E 8 fN)]) (As := [.ref c2, .int 0]) (rest := []) C (c_Ar_fill l E c2 8 fN 0 (by decide)) ym_Ar_fill wd_ml_Rv_18 wd_st_Ar_fill [1] (by decide) rfl hA hK hst hP hD hS rfl hl.1 rfl (Nat.le_of_ble_eq_true rfl) ⟨Nat.le_of_ble_eq_true rfl, Nat.le_of_ble_eq_true rfl⟩ ⟨Nat.le_of_ble_eq_true rfl, Nat.le_of_ble_eq_true rfl⟩ d_Rv_clear_13) (fun u2 H locs h2 hP hD hS => ?_)
  have hP : va_P E.1 vwCl [(h0, .inr (2, [.ref c1, .ref c2, .int tt, .int bo])), (c1, zI E 8 u1), (c2, zI E 8 u2)] H := hP
  have hD : va_D A [(h0, .inr (2, [.ref c1, .ref c2, .int tt, .int bo])), (c1, zI E 8 u1), (c2, zI E 8 u2)] := hD
  refine lv_aload_n hx hb d_Rv_clear_16 rfl (lv_at hl 0 rfl) ?_
  refine lv_iconst (v := 0) hx hb d_Rv_clear_17 (by decide) ?_
  refine zz_put C hK hP hD hS fl_Rv_24 0 rfl rfl rfl (Nat.le_of_ble_eq_true rfl) d_Rv_clear_18 (fun H locs hP hD hS => ?_)
  have hP : va_P E.1 vwCl [(h0, .inr (2, [.ref c1, .ref c2, .int 0, .int bo])), (c1, zI E 8 u1), (c2, zI E 8 u2)] H := hP
  have hD : va_D A [(h0, .inr (2, [.ref c1, .ref c2, .int 0, .int bo])), (c1, zI E 8 u1), (c2, zI E 8 u2)] := hD
  refine lv_aload_n hx hb d_Rv_clear_21 rfl (lv_at hl 0 rfl) ?_
  refine lv_iconst (v := 0) hx hb d_Rv_clear_22 (by decide) ?_
  refine zz_put C hK hP hD hS fl_Rv_28 0 rfl rfl rfl (Nat.le_of_ble_eq_true rfl) d_Rv_clear_23 (fun H locs hP hD hS => ?_)
  have hP : va_P E.1 vwCl [(h0, .inr (2, [.ref c1, .ref c2, .int 0, .int 0])), (c1, zI E 8 u1), (c2, zI E 8 u2)] H := hP
  have hD : va_D A [(h0, .inr (2, [.ref c1, .ref c2, .int 0, .int 0])), (c1, zI E 8 u1), (c2, zI E 8 u2)] := hD
  have hP := hP.sub (ws' := [(h0, .inr (2, [.ref c1, .ref c2, .int 0, .int 0])), (c1, zI E 8 u1), (c2, zI E 8 u2)]) [0, 1, 2] rfl
  have hD := hD.sub (ws' := [(h0, .inr (2, [.ref c1, .ref c2, .int 0, .int 0])), (c1, zI E 8 u1), (c2, zI E 8 u2)]) [0, 1, 2] (by decide) rfl
  exact zz_retv C hS (u1, u2) (⟨h1, h2⟩) hP hD d_Rv_clear_26

set_option maxHeartbeats 4000000 in
set_option maxRecDepth 100000 in
theorem c_Rv_addThing (l : Launch) (E : zG) (h0 c1 c2 tn : Nat) (fL fN : Nat → Int32) (bo : Int32) (x : Int32) : zMet l y_Rv_addThing b_Rv_addThing 3 (some .boolean) 0 0 0 0 E [.ref h0, .int x] [(h0, .inr (2, [.ref c1, .ref c2, .int (nI tn), .int bo])), (c1, zI E 8 fL), (c2, zI E 8 fN)] (zQi E (S := (Nat → Int32) × Nat) (fun r u => (rv_addok fL x → r = 1 ∧ u = (upd fL (x - 97).toNatClampNeg (nI tn), tn + 1)) ∧ (¬ rv_addok fL x → r = 0 ∧ u = (fL, tn))) (fun u => [(h0, .inr (2, [.ref c1, .ref c2, .int (nI u.2), .int bo])), (c1, zI E 8 u.1), (c2, zI E 8 fN)])) := by
  refine zz_met (by decide +kernel) (Nat.le_of_ble_eq_true rfl) ?_
  intro p e s m below meth c A ls C hin hA hK hst hP hD hl
  obtain ⟨hx, hb, hr, hml, hown, hts, hlk⟩ := id C
  have hS : va_S A s.heap s.heap [] := va_S.rf
  have hl : lv_has ls 3 [(0, .ref h0), (1, .int x)] := hl
  refine lv_iload_n hx hb d_Rv_addThing_0 rfl (lv_at hl 1 rfl) ?_
  refine lv_bipush (v := 97) hx hb d_Rv_addThing_1 (by decide) ?_
  refine lv_isub hx hb d_Rv_addThing_3 ?_
  refine lv_istore_n (lv' := [(2, .int (x - 97)), (0, .ref h0), (1, .int x)]) hx hb d_Rv_addThing_4 rfl hl (by decide) rfl (fun ls hl => ?_)
  refine lv_iload_n hx hb d_Rv_addThing_5 rfl (lv_at hl 0 rfl) ?_
  refine lv_if_lt (tgt := 25) hx hb d_Rv_addThing_6 (by decide) (fun c_6 => ?_) (fun c_6 => ?_)
  · refine lv_iconst (v := 0) hx hb d_Rv_addThing_25 (by decide) ?_
    exact zz_reti C (rfl) hS (fL, tn) (⟨fun h => absurd h (by intro h; exact h.1 c_6), fun _ => ⟨rfl, rfl⟩⟩) hP hD d_Rv_addThing_26
  · refine lv_iload_n hx hb d_Rv_addThing_9 rfl (lv_at hl 0 rfl) ?_
    refine lv_bipush (v := 8) hx hb d_Rv_addThing_10 (by decide) ?_
    refine lv_icmp_ge (tgt := 25) hx hb d_Rv_addThing_12 (by decide) (fun c_7 => ?_) (fun c_7 => ?_)
    · refine lv_iconst (v := 0) hx hb d_Rv_addThing_25 (by decide) ?_
      exact zz_reti C (rfl) hS (fL, tn) (⟨fun h => absurd h (by intro h; exact h.2.1 c_7), fun _ => ⟨rfl, rfl⟩⟩) hP hD d_Rv_addThing_26
    · refine lv_aload_n hx hb d_Rv_addThing_15 rfl (lv_at hl 1 rfl) ?_
      refine zz_get C hK hP fl_Rv_11 0 rfl rfl d_Rv_addThing_16 ?_
      refine lv_iload_n hx hb d_Rv_addThing_19 rfl (lv_at hl 0 rfl) ?_
      refine zz_iald C hK hP 1 rfl (rv_vp8 c_6 c_7) d_Rv_addThing_20 ?_
      refine lv_iconst (v := (-1)) hx hb d_Rv_addThing_21 (by decide) ?_
      refine lv_icmp_eq (tgt := 27) hx hb d_Rv_addThing_22 (by decide) (fun c_8 => ?_) (fun c_8 => ?_)
      · refine lv_aload_n hx hb d_Rv_addThing_27 rfl (lv_at hl 1 rfl) ?_
        refine zz_get C hK hP fl_Rv_11 0 rfl rfl d_Rv_addThing_28 ?_
        refine lv_iload_n hx hb d_Rv_addThing_31 rfl (lv_at hl 0 rfl) ?_
        refine lv_aload_n hx hb d_Rv_addThing_32 rfl (lv_at hl 1 rfl) ?_
        refine zz_get C hK hP fl_Rv_24 0 rfl rfl d_Rv_addThing_33 ?_
        refine zz_iast C hK hP hD hS 1 rfl (rv_vp8 c_6 c_7) d_Rv_addThing_36 (fun H locs hP hD hS => ?_)
        have hP : va_P E.1 vwCl [(h0, .inr (2, [.ref c1, .ref c2, .int (nI tn), .int bo])), (c1, zI E 8 (upd fL (x - 97).toNatClampNeg (nI tn))), (c2, zI E 8 fN)] H := hP
        have hD : va_D A [(h0, .inr (2, [.ref c1, .ref c2, .int (nI tn), .int bo])), (c1, zI E 8 (upd fL (x - 97).toNatClampNeg (nI tn))), (c2, zI E 8 fN)] := hD
        refine lv_aload_n hx hb d_Rv_addThing_37 rfl (lv_at hl 1 rfl) ?_
        refine lv_dup hx hb d_Rv_addThing_38 rfl ?_
        refine zz_get C hK hP fl_Rv_24 0 rfl rfl d_Rv_addThing_39 ?_
        refine lv_iconst (v := 1) hx hb d_Rv_addThing_42 (by decide) ?_
        refine lv_iadd hx hb d_Rv_addThing_43 ?_
        refine zz_eqi (y := nI (tn + 1)) (nI_1 _) ?_
        refine zz_put C hK hP hD hS fl_Rv_24 0 rfl rfl rfl (Nat.le_of_ble_eq_true rfl) d_Rv_addThing_44 (fun H locs hP hD hS => ?_)
        have hP : va_P E.1 vwCl [(h0, .inr (2, [.ref c1, .ref c2, .int (nI (tn + 1)), .int bo])), (c1, zI E 8 (upd fL (x - 97).toNatClampNeg (nI tn))), (c2, zI E 8 fN)] H := hP
        have hD : va_D A [(h0, .inr (2, [.ref c1, .ref c2, .int (nI (tn + 1)), .int bo])), (c1, zI E 8 (upd fL (x - 97).toNatClampNeg (nI tn))), (c2, zI E 8 fN)] := hD
        refine lv_iconst (v := 1) hx hb d_Rv_addThing_47 (by decide) ?_
        exact zz_reti C (rfl) hS (upd fL (x - 97).toNatClampNeg (nI tn), tn + 1) (⟨fun _ => ⟨rfl, rfl⟩, fun h => absurd ⟨c_6, c_7, c_8⟩ h⟩) hP hD d_Rv_addThing_48
      · refine lv_iconst (v := 0) hx hb d_Rv_addThing_25 (by decide) ?_
        exact zz_reti C (rfl) hS (fL, tn) (⟨fun h => absurd h (by intro h; exact c_8 h.2.2), fun _ => ⟨rfl, rfl⟩⟩) hP hD d_Rv_addThing_26

set_option maxHeartbeats 4000000 in
set_option maxRecDepth 100000 in
theorem c_Rv_thingOf (l : Launch) (E : zG) (h0 c1 c2 tn : Nat) (fL fN : Nat → Int32) (bo : Int32) (x : Int32) : zMet l y_Rv_thingOf b_Rv_thingOf 3 (some .int) 0 0 0 0 E [.ref h0, .int x] [(h0, .inr (2, [.ref c1, .ref c2, .int (nI tn), .int bo])), (c1, zI E 8 fL), (c2, zI E 8 fN)] (zQi E (S := Unit) (fun r _ => r = rv_thing fL x) (fun _ => [(h0, .inr (2, [.ref c1, .ref c2, .int (nI tn), .int bo])), (c1, zI E 8 fL), (c2, zI E 8 fN)])) := by
  refine zz_met (by decide +kernel) (Nat.le_of_ble_eq_true rfl) ?_
  intro p e s m below meth c A ls C hin hA hK hst hP hD hl
  obtain ⟨hx, hb, hr, hml, hown, hts, hlk⟩ := id C
  have hS : va_S A s.heap s.heap [] := va_S.rf
  have hl : lv_has ls 3 [(0, .ref h0), (1, .int x)] := hl
  refine lv_iload_n hx hb d_Rv_thingOf_0 rfl (lv_at hl 1 rfl) ?_
  refine lv_bipush (v := 97) hx hb d_Rv_thingOf_1 (by decide) ?_
  refine lv_isub hx hb d_Rv_thingOf_3 ?_
  refine lv_istore_n (lv' := [(2, .int (x - 97)), (0, .ref h0), (1, .int x)]) hx hb d_Rv_thingOf_4 rfl hl (by decide) rfl (fun ls hl => ?_)
  refine lv_iload_n hx hb d_Rv_thingOf_5 rfl (lv_at hl 0 rfl) ?_
  refine lv_if_lt (tgt := 15) hx hb d_Rv_thingOf_6 (by decide) (fun c_9 => ?_) (fun c_9 => ?_)
  · refine lv_iconst (v := (-1)) hx hb d_Rv_thingOf_15 (by decide) ?_
    refine lv_goto (tgt := 25) hx hb d_Rv_thingOf_16 (by decide) ?_
    exact zz_reti C (rfl) hS () ((if_neg (fun h => h.1 c_9)).symm) hP hD d_Rv_thingOf_25
  · refine lv_iload_n hx hb d_Rv_thingOf_9 rfl (lv_at hl 0 rfl) ?_
    refine lv_bipush (v := 8) hx hb d_Rv_thingOf_10 (by decide) ?_
    refine lv_icmp_lt (tgt := 19) hx hb d_Rv_thingOf_12 (by decide) (fun c_10 => ?_) (fun c_10 => ?_)
    · refine lv_aload_n hx hb d_Rv_thingOf_19 rfl (lv_at hl 1 rfl) ?_
      refine zz_get C hK hP fl_Rv_11 0 rfl rfl d_Rv_thingOf_20 ?_
      refine lv_iload_n hx hb d_Rv_thingOf_23 rfl (lv_at hl 0 rfl) ?_
      refine zz_iald C hK hP 1 rfl (rv_vp8l c_9 c_10) d_Rv_thingOf_24 ?_
      exact zz_reti C (rfl) hS () ((if_pos (c := rv_lok x) ⟨c_9, c_10⟩).symm) hP hD d_Rv_thingOf_25
    · refine lv_iconst (v := (-1)) hx hb d_Rv_thingOf_15 (by decide) ?_
      refine lv_goto (tgt := 25) hx hb d_Rv_thingOf_16 (by decide) ?_
      exact zz_reti C (rfl) hS () ((if_neg (fun h => c_10 h.2)).symm) hP hD d_Rv_thingOf_25

set_option maxHeartbeats 4000000 in
set_option maxRecDepth 100000 in
theorem c_Rv_keepApart (l : Launch) (E : zG) (h0 c1 c2 tn : Nat) (fL fN : Nat → Int32) (bo : Int32) (x y : Int32) (ht : tn ≤ 8) : zMet l y_Rv_keepApart b_Rv_keepApart 3 (some .boolean) 0 0 0 0 E [.ref h0, .int x, .int y] [(h0, .inr (2, [.ref c1, .ref c2, .int (nI tn), .int bo])), (c1, zI E 8 fL), (c2, zI E 8 fN)] (zQi E (S := Nat → Int32) (fun r u => (rv_kok tn x y → r = 1 ∧ u = rv_keep fN x y) ∧ (¬ rv_kok tn x y → r = 0 ∧ u = fN)) (fun u => [(h0, .inr (2, [.ref c1, .ref c2, .int (nI tn), .int bo])), (c1, zI E 8 fL), (c2, zI E 8 u)])) := by
  refine zz_met (by decide +kernel) (Nat.le_of_ble_eq_true rfl) ?_
  intro p e s m below meth c A ls C hin hA hK hst hP hD hl
  obtain ⟨hx, hb, hr, hml, hown, hts, hlk⟩ := id C
  have hS : va_S A s.heap s.heap [] := va_S.rf
  have hl : lv_has ls 3 [(0, .ref h0), (1, .int x), (2, .int y)] := hl
  refine lv_iload_n hx hb d_Rv_keepApart_0 rfl (lv_at hl 1 rfl) ?_
  refine lv_if_lt (tgt := 29) hx hb d_Rv_keepApart_1 (by decide) (fun c_11 => ?_) (fun c_11 => ?_)
  · refine lv_iconst (v := 0) hx hb d_Rv_keepApart_29 (by decide) ?_
    exact zz_reti C (rfl) hS fN (⟨fun h => absurd h (by intro h; exact h.1 c_11), fun _ => ⟨rfl, rfl⟩⟩) hP hD d_Rv_keepApart_30
  · refine lv_iload_n hx hb d_Rv_keepApart_4 rfl (lv_at hl 1 rfl) ?_
    refine lv_aload_n hx hb d_Rv_keepApart_5 rfl (lv_at hl 0 rfl) ?_
    refine zz_get C hK hP fl_Rv_24 0 rfl rfl d_Rv_keepApart_6 ?_
    refine lv_icmp_ge (tgt := 29) hx hb d_Rv_keepApart_9 (by decide) (fun c_12 => ?_) (fun c_12 => ?_)
    · refine lv_iconst (v := 0) hx hb d_Rv_keepApart_29 (by decide) ?_
      exact zz_reti C (rfl) hS fN (⟨fun h => absurd h (by intro h; exact h.2.1 c_12), fun _ => ⟨rfl, rfl⟩⟩) hP hD d_Rv_keepApart_30
    · refine lv_iload_n hx hb d_Rv_keepApart_12 rfl (lv_at hl 2 rfl) ?_
      refine lv_if_lt (tgt := 29) hx hb d_Rv_keepApart_13 (by decide) (fun c_13 => ?_) (fun c_13 => ?_)
      · refine lv_iconst (v := 0) hx hb d_Rv_keepApart_29 (by decide) ?_
        exact zz_reti C (rfl) hS fN (⟨fun h => absurd h (by intro h; exact h.2.2.1 c_13), fun _ => ⟨rfl, rfl⟩⟩) hP hD d_Rv_keepApart_30
      · refine lv_iload_n hx hb d_Rv_keepApart_16 rfl (lv_at hl 2 rfl) ?_
        refine lv_aload_n hx hb d_Rv_keepApart_17 rfl (lv_at hl 0 rfl) ?_
        refine zz_get C hK hP fl_Rv_24 0 rfl rfl d_Rv_keepApart_18 ?_
        refine lv_icmp_ge (tgt := 29) hx hb d_Rv_keepApart_21 (by decide) (fun c_14 => ?_) (fun c_14 => ?_)
        · refine lv_iconst (v := 0) hx hb d_Rv_keepApart_29 (by decide) ?_
          exact zz_reti C (rfl) hS fN (⟨fun h => absurd h (by intro h; exact h.2.2.2.1 c_14), fun _ => ⟨rfl, rfl⟩⟩) hP hD d_Rv_keepApart_30
        · refine lv_iload_n hx hb d_Rv_keepApart_24 rfl (lv_at hl 1 rfl) ?_
          refine lv_iload_n hx hb d_Rv_keepApart_25 rfl (lv_at hl 2 rfl) ?_
          refine lv_icmp_ne (tgt := 31) hx hb d_Rv_keepApart_26 (by decide) (fun c_15 => ?_) (fun c_15 => ?_)
          · refine lv_aload_n hx hb d_Rv_keepApart_31 rfl (lv_at hl 0 rfl) ?_
            refine zz_get C hK hP fl_Rv_15 0 rfl rfl d_Rv_keepApart_32 ?_
            refine lv_iload_n hx hb d_Rv_keepApart_35 rfl (lv_at hl 1 rfl) ?_
            refine lv_dup2_11 hx hb d_Rv_keepApart_36 rfl rfl ?_
            refine zz_iald C hK hP 2 rfl (rv_vpt ht c_11 c_12) d_Rv_keepApart_37 ?_
            refine lv_iconst (v := 1) hx hb d_Rv_keepApart_38 (by decide) ?_
            refine lv_iload_n hx hb d_Rv_keepApart_39 rfl (lv_at hl 2 rfl) ?_
            refine lv_ishl hx hb d_Rv_keepApart_40 ?_
            refine lv_ior hx hb d_Rv_keepApart_41 ?_
            refine zz_iast C hK hP hD hS 2 rfl (rv_vpt ht c_11 c_12) d_Rv_keepApart_42 (fun H locs hP hD hS => ?_)
            have hP : va_P E.1 vwCl [(h0, .inr (2, [.ref c1, .ref c2, .int (nI tn), .int bo])), (c1, zI E 8 fL), (c2, zI E 8 (upd fN x.toNatClampNeg ((fN x.toNatClampNeg) ||| (1 <<< (y &&& 31)))))] H := hP
            have hD : va_D A [(h0, .inr (2, [.ref c1, .ref c2, .int (nI tn), .int bo])), (c1, zI E 8 fL), (c2, zI E 8 (upd fN x.toNatClampNeg ((fN x.toNatClampNeg) ||| (1 <<< (y &&& 31)))))] := hD
            refine lv_aload_n hx hb d_Rv_keepApart_43 rfl (lv_at hl 0 rfl) ?_
            refine zz_get C hK hP fl_Rv_15 0 rfl rfl d_Rv_keepApart_44 ?_
            refine lv_iload_n hx hb d_Rv_keepApart_47 rfl (lv_at hl 2 rfl) ?_
            refine lv_dup2_11 hx hb d_Rv_keepApart_48 rfl rfl ?_
            refine zz_iald C hK hP 2 rfl (rv_vpt ht c_13 c_14) d_Rv_keepApart_49 ?_
            refine lv_iconst (v := 1) hx hb d_Rv_keepApart_50 (by decide) ?_
            refine lv_iload_n hx hb d_Rv_keepApart_51 rfl (lv_at hl 1 rfl) ?_
            refine lv_ishl hx hb d_Rv_keepApart_52 ?_
            refine lv_ior hx hb d_Rv_keepApart_53 ?_
            refine zz_iast C hK hP hD hS 2 rfl (rv_vpt ht c_13 c_14) d_Rv_keepApart_54 (fun H locs hP hD hS => ?_)
            have hP : va_P E.1 vwCl [(h0, .inr (2, [.ref c1, .ref c2, .int (nI tn), .int bo])), (c1, zI E 8 fL), (c2, zI E 8 (upd (upd fN x.toNatClampNeg ((fN x.toNatClampNeg) ||| (1 <<< (y &&& 31)))) y.toNatClampNeg (((upd fN x.toNatClampNeg ((fN x.toNatClampNeg) ||| (1 <<< (y &&& 31)))) y.toNatClampNeg) ||| (1 <<< (x &&& 31)))))] H := hP
            have hD : va_D A [(h0, .inr (2, [.ref c1, .ref c2, .int (nI tn), .int bo])), (c1, zI E 8 fL), (c2, zI E 8 (upd (upd fN x.toNatClampNeg ((fN x.toNatClampNeg) ||| (1 <<< (y &&& 31)))) y.toNatClampNeg (((upd fN x.toNatClampNeg ((fN x.toNatClampNeg) ||| (1 <<< (y &&& 31)))) y.toNatClampNeg) ||| (1 <<< (x &&& 31)))))] := hD
            refine lv_iconst (v := 1) hx hb d_Rv_keepApart_55 (by decide) ?_
            exact zz_reti C (rfl) hS (rv_keep fN x y) (⟨fun _ => ⟨rfl, rfl⟩, fun h => absurd ⟨c_11, c_12, c_13, c_14, c_15⟩ h⟩) hP hD d_Rv_keepApart_56
          · refine lv_iconst (v := 0) hx hb d_Rv_keepApart_29 (by decide) ?_
            exact zz_reti C (rfl) hS fN (⟨fun h => absurd h (by intro h; exact h.2.2.2.2 c_15), fun _ => ⟨rfl, rfl⟩⟩) hP hD d_Rv_keepApart_30

set_option maxHeartbeats 4000000 in
set_option maxRecDepth 100000 in
theorem c_Rv_setBoat (l : Launch) (E : zG) (h0 c1 c2 tn : Nat) (fL fN : Nat → Int32) (bo : Int32) (x : Int32) : zMet l y_Rv_setBoat b_Rv_setBoat 2 (some .boolean) 0 0 0 0 E [.ref h0, .int x] [(h0, .inr (2, [.ref c1, .ref c2, .int (nI tn), .int bo])), (c1, zI E 8 fL), (c2, zI E 8 fN)] (zQi E (S := Int32) (fun r u => ((¬ x < 49 ∧ x ≤ 51) → r = 1 ∧ u = x - 48) ∧ (¬ (¬ x < 49 ∧ x ≤ 51) → r = 0 ∧ u = bo)) (fun u => [(h0, .inr (2, [.ref c1, .ref c2, .int (nI tn), .int u])), (c1, zI E 8 fL), (c2, zI E 8 fN)])) := by
  refine zz_met (by decide +kernel) (Nat.le_of_ble_eq_true rfl) ?_
  intro p e s m below meth c A ls C hin hA hK hst hP hD hl
  obtain ⟨hx, hb, hr, hml, hown, hts, hlk⟩ := id C
  have hS : va_S A s.heap s.heap [] := va_S.rf
  have hl : lv_has ls 2 [(0, .ref h0), (1, .int x)] := hl
  refine lv_iload_n hx hb d_Rv_setBoat_0 rfl (lv_at hl 1 rfl) ?_
  refine lv_bipush (v := 49) hx hb d_Rv_setBoat_1 (by decide) ?_
  refine lv_icmp_lt (tgt := 12) hx hb d_Rv_setBoat_3 (by decide) (fun c_16 => ?_) (fun c_16 => ?_)
  · refine lv_iconst (v := 0) hx hb d_Rv_setBoat_12 (by decide) ?_
    exact zz_reti C (rfl) hS bo (⟨fun h => absurd h (by intro h; exact h.1 c_16), fun _ => ⟨rfl, rfl⟩⟩) hP hD d_Rv_setBoat_13
  · refine lv_iload_n hx hb d_Rv_setBoat_6 rfl (lv_at hl 1 rfl) ?_
    refine lv_bipush (v := 51) hx hb d_Rv_setBoat_7 (by decide) ?_
    refine lv_icmp_le (tgt := 14) hx hb d_Rv_setBoat_9 (by decide) (fun c_17 => ?_) (fun c_17 => ?_)
    · refine lv_aload_n hx hb d_Rv_setBoat_14 rfl (lv_at hl 0 rfl) ?_
      refine lv_iload_n hx hb d_Rv_setBoat_15 rfl (lv_at hl 1 rfl) ?_
      refine lv_bipush (v := 48) hx hb d_Rv_setBoat_16 (by decide) ?_
      refine lv_isub hx hb d_Rv_setBoat_18 ?_
      refine zz_put C hK hP hD hS fl_Rv_28 0 rfl rfl rfl (Nat.le_of_ble_eq_true rfl) d_Rv_setBoat_19 (fun H locs hP hD hS => ?_)
      have hP : va_P E.1 vwCl [(h0, .inr (2, [.ref c1, .ref c2, .int (nI tn), .int (x - 48)])), (c1, zI E 8 fL), (c2, zI E 8 fN)] H := hP
      have hD : va_D A [(h0, .inr (2, [.ref c1, .ref c2, .int (nI tn), .int (x - 48)])), (c1, zI E 8 fL), (c2, zI E 8 fN)] := hD
      refine lv_iconst (v := 1) hx hb d_Rv_setBoat_22 (by decide) ?_
      exact zz_reti C (rfl) hS (x - 48) (⟨fun _ => ⟨rfl, rfl⟩, fun h => absurd ⟨c_16, c_17⟩ h⟩) hP hD d_Rv_setBoat_23
    · refine lv_iconst (v := 0) hx hb d_Rv_setBoat_12 (by decide) ?_
      exact zz_reti C (rfl) hS bo (⟨fun h => absurd h (by intro h; exact c_17 h.2), fun _ => ⟨rfl, rfl⟩⟩) hP hD d_Rv_setBoat_13

set_option maxHeartbeats 4000000 in
set_option maxRecDepth 100000 in
theorem c_Rv_stateCount (l : Launch) (E : zG) (h0 c1 c2 tn : Nat) (fL fN : Nat → Int32) (bo : Int32) : zMet l y_Rv_stateCount b_Rv_stateCount 1 (some .int) 0 0 0 0 E [.ref h0] [(h0, .inr (2, [.ref c1, .ref c2, .int (nI tn), .int bo])), (c1, zI E 8 fL), (c2, zI E 8 fN)] (zQi E (S := Unit) (fun r _ => r = nI 512) (fun _ => [(h0, .inr (2, [.ref c1, .ref c2, .int (nI tn), .int bo])), (c1, zI E 8 fL), (c2, zI E 8 fN)])) := by
  refine zz_met (by decide +kernel) (Nat.le_of_ble_eq_true rfl) ?_
  intro p e s m below meth c A ls C hin hA hK hst hP hD hl
  obtain ⟨hx, hb, hr, hml, hown, hts, hlk⟩ := id C
  have hS : va_S A s.heap s.heap [] := va_S.rf
  have hl : lv_has ls 1 [(0, .ref h0)] := hl
  refine lv_sipush (v := 512) hx hb d_Rv_stateCount_0 (by decide) ?_
  exact zz_reti C (rfl) hS () (rfl) hP hD d_Rv_stateCount_3

set_option maxHeartbeats 4000000 in
set_option maxRecDepth 100000 in
theorem c_Rv_startState (l : Launch) (E : zG) (h0 c1 c2 tn : Nat) (fL fN : Nat → Int32) (bo : Int32) : zMet l y_Rv_startState b_Rv_startState 1 (some .int) 0 0 0 0 E [.ref h0] [(h0, .inr (2, [.ref c1, .ref c2, .int (nI tn), .int bo])), (c1, zI E 8 fL), (c2, zI E 8 fN)] (zQi E (S := Unit) (fun r _ => r = nI 0) (fun _ => [(h0, .inr (2, [.ref c1, .ref c2, .int (nI tn), .int bo])), (c1, zI E 8 fL), (c2, zI E 8 fN)])) := by
  refine zz_met (by decide +kernel) (Nat.le_of_ble_eq_true rfl) ?_
  intro p e s m below meth c A ls C hin hA hK hst hP hD hl
  obtain ⟨hx, hb, hr, hml, hown, hts, hlk⟩ := id C
  have hS : va_S A s.heap s.heap [] := va_S.rf
  have hl : lv_has ls 1 [(0, .ref h0)] := hl
  refine lv_iconst (v := 0) hx hb d_Rv_startState_0 (by decide) ?_
  exact zz_reti C (rfl) hS () (rfl) hP hD d_Rv_startState_1

set_option maxHeartbeats 4000000 in
set_option maxRecDepth 100000 in
theorem c_Rv_allThings (l : Launch) (E : zG) (h0 c1 c2 tn : Nat) (fL fN : Nat → Int32) (bo : Int32) (ht : tn ≤ 8) : zMet l y_Rv_allThings b_Rv_allThings 1 (some .int) 0 0 0 0 E [.ref h0] [(h0, .inr (2, [.ref c1, .ref c2, .int (nI tn), .int bo])), (c1, zI E 8 fL), (c2, zI E 8 fN)] (zQi E (S := Unit) (fun r _ => r = nI (2 ^ tn - 1)) (fun _ => [(h0, .inr (2, [.ref c1, .ref c2, .int (nI tn), .int bo])), (c1, zI E 8 fL), (c2, zI E 8 fN)])) := by
  refine zz_met (by decide +kernel) (Nat.le_of_ble_eq_true rfl) ?_
  intro p e s m below meth c A ls C hin hA hK hst hP hD hl
  obtain ⟨hx, hb, hr, hml, hown, hts, hlk⟩ := id C
  have hS : va_S A s.heap s.heap [] := va_S.rf
  have hl : lv_has ls 1 [(0, .ref h0)] := hl
  refine lv_iconst (v := 1) hx hb d_Rv_allThings_0 (by decide) ?_
  refine lv_aload_n hx hb d_Rv_allThings_1 rfl (lv_at hl 0 rfl) ?_
  refine zz_get C hK hP fl_Rv_24 0 rfl rfl d_Rv_allThings_2 ?_
  refine lv_ishl hx hb d_Rv_allThings_5 ?_
  refine lv_iconst (v := 1) hx hb d_Rv_allThings_6 (by decide) ?_
  refine lv_isub hx hb d_Rv_allThings_7 ?_
  exact zz_reti C (rfl) hS () (rv_all tn (by omega)) hP hD d_Rv_allThings_8

set_option maxHeartbeats 4000000 in
set_option maxRecDepth 100000 in
theorem c_Rv_firstTold (l : Launch) (E : zG) (h0 c1 c2 tn : Nat) (fL fN : Nat → Int32) (bo : Int32) (k : Int32) : zMet l y_Rv_firstTold b_Rv_firstTold 2 (some .int) 0 0 0 0 E [.ref h0, .int k] [(h0, .inr (2, [.ref c1, .ref c2, .int (nI tn), .int bo])), (c1, zI E 8 fL), (c2, zI E 8 fN)] (zQi E (S := Unit) (fun r _ => r = k) (fun _ => [(h0, .inr (2, [.ref c1, .ref c2, .int (nI tn), .int bo])), (c1, zI E 8 fL), (c2, zI E 8 fN)])) := by
  refine zz_met (by decide +kernel) (Nat.le_of_ble_eq_true rfl) ?_
  intro p e s m below meth c A ls C hin hA hK hst hP hD hl
  obtain ⟨hx, hb, hr, hml, hown, hts, hlk⟩ := id C
  have hS : va_S A s.heap s.heap [] := va_S.rf
  have hl : lv_has ls 2 [(0, .ref h0), (1, .int k)] := hl
  refine lv_iload_n hx hb d_Rv_firstTold_0 rfl (lv_at hl 1 rfl) ?_
  exact zz_reti C (rfl) hS () (rfl) hP hD d_Rv_firstTold_1

set_option maxHeartbeats 4000000 in
set_option maxRecDepth 100000 in
theorem c_Rv_secondTold (l : Launch) (E : zG) (h0 c1 c2 tn : Nat) (fL fN : Nat → Int32) (bo : Int32) (k z : Int32) : zMet l y_Rv_secondTold b_Rv_secondTold 3 (some .int) 0 0 0 0 E [.ref h0, .int k, .int z] [(h0, .inr (2, [.ref c1, .ref c2, .int (nI tn), .int bo])), (c1, zI E 8 fL), (c2, zI E 8 fN)] (zQi E (S := Unit) (fun r _ => r = z &&& 255) (fun _ => [(h0, .inr (2, [.ref c1, .ref c2, .int (nI tn), .int bo])), (c1, zI E 8 fL), (c2, zI E 8 fN)])) := by
  refine zz_met (by decide +kernel) (Nat.le_of_ble_eq_true rfl) ?_
  intro p e s m below meth c A ls C hin hA hK hst hP hD hl
  obtain ⟨hx, hb, hr, hml, hown, hts, hlk⟩ := id C
  have hS : va_S A s.heap s.heap [] := va_S.rf
  have hl : lv_has ls 3 [(0, .ref h0), (1, .int k), (2, .int z)] := hl
  refine lv_iload_n hx hb d_Rv_secondTold_0 rfl (lv_at hl 2 rfl) ?_
  refine lv_sipush (v := 255) hx hb d_Rv_secondTold_1 (by decide) ?_
  refine lv_iand hx hb d_Rv_secondTold_4 ?_
  exact zz_reti C (rfl) hS () (rfl) hP hD d_Rv_secondTold_5

set_option maxHeartbeats 4000000 in
set_option maxRecDepth 100000 in
theorem c_Rv_isDone (l : Launch) (E : zG) (h0 c1 c2 tn : Nat) (fL fN : Nat → Int32) (bo : Int32) (x : Nat) (ht : tn ≤ 8) : zMet l y_Rv_isDone b_Rv_isDone 2 (some .boolean) 1 20 0 0 E [.ref h0, .int (nI x)] [(h0, .inr (2, [.ref c1, .ref c2, .int (nI tn), .int bo])), (c1, zI E 8 fL), (c2, zI E 8 fN)] (zQi E (S := Unit) (fun r _ => (x % 256 = 2 ^ tn - 1 → r = 1) ∧ (¬ x % 256 = 2 ^ tn - 1 → r = 0)) (fun _ => [(h0, .inr (2, [.ref c1, .ref c2, .int (nI tn), .int bo])), (c1, zI E 8 fL), (c2, zI E 8 fN)])) := by
  refine zz_met (by decide +kernel) (Nat.le_of_ble_eq_true rfl) ?_
  intro p e s m below meth c A ls C hin hA hK hst hP hD hl
  obtain ⟨hx, hb, hr, hml, hown, hts, hlk⟩ := id C
  have hS : va_S A s.heap s.heap [] := va_S.rf
  have hl : lv_has ls 2 [(0, .ref h0), (1, .int (nI x))] := hl
  refine lv_iload_n hx hb d_Rv_isDone_0 rfl (lv_at hl 1 rfl) ?_
  refine lv_sipush (v := 255) hx hb d_Rv_isDone_1 (by decide) ?_
  refine lv_iand hx hb d_Rv_isDone_4 ?_
  refine zz_eqi (y := nI (x % 256)) (rv_m255 x) ?_
  refine lv_aload_n hx hb d_Rv_isDone_5 rfl (lv_at hl 0 rfl) ?_
  refine zz_goi (wr := []) [0, 1, 2] [] rfl rfl (by decide) (by decide) hA hP hD hS (zz_runV (wc := [(h0, .inr (2, [.ref c1, .ref c2, .int (nI tn), .int bo])), (c1, zI E 8 fL), (c2, zI E 8 fN)]) (As := []) (rest := [.int (nI (x % 256))]) C (c_Rv_allThings l E h0 c1 c2 tn fL fN bo ht) ym_Rv_allThings wd_ml_Rv_31 wd_im_Rv_allThings wd_se_Rv_allThings [0, 1, 2] (by decide) rfl hA hK hst hP hD hS (ci := 2) (q0 := 0) rfl rfl rfl rfl hl.1 rfl (Nat.le_of_ble_eq_true rfl) ⟨Nat.le_of_ble_eq_true rfl, Nat.le_of_ble_eq_true rfl⟩ ⟨Nat.le_of_ble_eq_true rfl, Nat.le_of_ble_eq_true rfl⟩ d_Rv_isDone_6) (fun r_18 u H locs hw hP hD hS => ?_)
  have hP : va_P E.1 vwCl [(h0, .inr (2, [.ref c1, .ref c2, .int (nI tn), .int bo])), (c1, zI E 8 fL), (c2, zI E 8 fN)] H := hP
  have hD : va_D A [(h0, .inr (2, [.ref c1, .ref c2, .int (nI tn), .int bo])), (c1, zI E 8 fL), (c2, zI E 8 fN)] := hD
  subst hw
  have hp : 2 ^ tn ≤ 2 ^ 8 := Nat.pow_le_pow_right (by decide) ht
  refine lv_icmp_ne (tgt := 16) hx hb d_Rv_isDone_9 (by decide) (fun c_19 => ?_) (fun c_19 => ?_)
  · refine lv_iconst (v := 0) hx hb d_Rv_isDone_16 (by decide) ?_
    exact zz_reti C (rfl) hS () (⟨fun h => absurd (by rw [h]) c_19, fun _ => rfl⟩) hP hD d_Rv_isDone_17
  · refine lv_iconst (v := 1) hx hb d_Rv_isDone_12 (by decide) ?_
    refine lv_goto (tgt := 17) hx hb d_Rv_isDone_13 (by decide) ?_
    exact zz_reti C (rfl) hS () (⟨fun _ => rfl, fun h => absurd ((nI_eq (by omega) (by omega)).mp c_19) h⟩) hP hD d_Rv_isDone_17

set_option maxHeartbeats 4000000 in
set_option maxRecDepth 100000 in
theorem lp_Rv_mayBeLeft {p : Program} {l : Launch} {e : Env} {s : State} {m : MethodId} {below : List Frame} {meth : Method} {c : Code} {A : Nat → Prop}  {E : zG} {h0 c1 c2 tn : Nat} {fL fN : Nat → Int32} {bo : Int32} {nw : Nat → Nat} {m0 : Nat} (hm : m0 < 256) (hN : ∀ j, j < 8 → fN j = nI (nw j) ∧ nw j < 256) (C : cx p s m #[.ref h0, .int (nI m0)] meth c b_Rv_mayBeLeft 3 y_Rv_mayBeLeft.cls (some .boolean)) (hA : ∀ q, s.heap.size ≤ q → A q) (hK : kt E s) (hst : stt A s s.heap) :
    ∀ (f i : Nat) (_ : i + f = 8) (_ : ∀ j, j < i → m0 / 2 ^ j % 2 = 1 → nw j &&& m0 = 0) (H : Heap) (locs : List Loc) (ls : Array Slot), va_P E.1 vwCl [(h0, .inr (2, [.ref c1, .ref c2, .int (nI tn), .int bo])), (c1, zI E 8 fL), (c2, zI E 8 fN)] H → va_D A [(h0, .inr (2, [.ref c1, .ref c2, .int (nI tn), .int bo])), (c1, zI E 8 fL), (c2, zI E 8 fN)] → va_S A s.heap H locs → lv_has ls 3 [(0, .ref h0), (1, .int (nI m0)), (2, .int (nI i))] → W p l e (zR 0 0 0 0) s m #[.ref h0, .int (nI m0)] below meth c H locs 0 0 (MQ below ((zQi E (S := Unit) (fun r _ => (rv_stay nw m0 → r = 1) ∧ (¬ rv_stay nw m0 → r = 0)) (fun _ => [(h0, .inr (2, [.ref c1, .ref c2, .int (nI tn), .int bo])), (c1, zI E 8 fL), (c2, zI E 8 fN)])) A) #[.ref h0, .int (nI m0)] s 0 0 A) (F0 m 2 ls []) := by
  obtain ⟨hx, hb, hr, hml, hown, hts, hlk⟩ := id C
  intro f
  induction f with
  | zero =>
    intro i hi hd H locs ls hP hD hS hl
    have hi : i = 8 := by omega
    subst hi
    refine lv_iload_n hx hb d_Rv_mayBeLeft_2 rfl (lv_at hl 2 rfl) ?_
    refine lv_bipush (v := 8) hx hb d_Rv_mayBeLeft_3 (by decide) ?_
    refine lv_icmp_ge (tgt := 35) hx hb d_Rv_mayBeLeft_5 (by decide) (fun c_20 => ?_) (fun c_20 => ?_)
    · refine lv_iconst (v := 1) hx hb d_Rv_mayBeLeft_35 (by decide) ?_
      exact zz_reti C (rfl) hS () (⟨fun _ => rfl, fun h => absurd hd h⟩) hP hD d_Rv_mayBeLeft_36
    · exact absurd (nI_le (b := 8) (Nat.le_refl _) (by decide)) c_20
  | succ f ih =>
    intro i hi hd H locs ls hP hD hS hl
    have hic : i < 8 := by omega
    have hq := hN i hic
    refine lv_iload_n hx hb d_Rv_mayBeLeft_2 rfl (lv_at hl 2 rfl) ?_
    refine lv_bipush (v := 8) hx hb d_Rv_mayBeLeft_3 (by decide) ?_
    refine lv_icmp_ge (tgt := 35) hx hb d_Rv_mayBeLeft_5 (by decide) (fun c_21 => ?_) (fun c_21 => ?_)
    · exact absurd c_21 (nI_ge (b := 8) hic (by decide))
    · refine lv_iload_n hx hb d_Rv_mayBeLeft_8 rfl (lv_at hl 1 rfl) ?_
      refine lv_iload_n hx hb d_Rv_mayBeLeft_9 rfl (lv_at hl 2 rfl) ?_
      refine lv_ishr hx hb d_Rv_mayBeLeft_10 ?_
      refine lv_iconst (v := 1) hx hb d_Rv_mayBeLeft_11 (by decide) ?_
      refine lv_iand hx hb d_Rv_mayBeLeft_12 ?_
      refine zz_eqi (y := nI (m0 / 2 ^ i % 2)) (rv_bitE hm hic) ?_
      refine lv_if_eq (tgt := 29) hx hb d_Rv_mayBeLeft_13 (by decide) (fun c_22 => ?_) (fun c_22 => ?_)
      · refine lv_iinc (v := nI (i + 1)) (lv' := [(2, .int (nI (i + 1))), (0, .ref h0), (1, .int (nI m0))]) hx hb d_Rv_mayBeLeft_29 hl (k := 2) rfl (nI_1 _) (by decide) rfl (fun ls hl => ?_)
        refine lv_goto (tgt := 2) hx hb d_Rv_mayBeLeft_32 (by decide) ?_
        exact ih (i + 1) (by omega) (lt_s hd (fun h => absurd (c_22.symm.trans (by rw [h])) (by decide))) _ _ ls hP hD hS (lv_sub hl [1, 2, 0] rfl)
      · refine lv_aload_n hx hb d_Rv_mayBeLeft_16 rfl (lv_at hl 0 rfl) ?_
        refine zz_get C hK hP fl_Rv_15 0 rfl rfl d_Rv_mayBeLeft_17 ?_
        refine lv_iload_n hx hb d_Rv_mayBeLeft_20 rfl (lv_at hl 2 rfl) ?_
        refine zz_ialdN C hK hP 2 rfl (j := i) (hic) (by omega) d_Rv_mayBeLeft_21 ?_
        refine lv_iload_n hx hb d_Rv_mayBeLeft_22 rfl (lv_at hl 1 rfl) ?_
        refine lv_iand hx hb d_Rv_mayBeLeft_23 ?_
        refine zz_eqi (y := nI (nw i &&& m0)) (by rw [hq.1, nI_and]) ?_
        refine lv_if_eq (tgt := 29) hx hb d_Rv_mayBeLeft_24 (by decide) (fun c_23 => ?_) (fun c_23 => ?_)
        · refine lv_iinc (v := nI (i + 1)) (lv' := [(2, .int (nI (i + 1))), (0, .ref h0), (1, .int (nI m0))]) hx hb d_Rv_mayBeLeft_29 hl (k := 2) rfl (nI_1 _) (by decide) rfl (fun ls hl => ?_)
          refine lv_goto (tgt := 2) hx hb d_Rv_mayBeLeft_32 (by decide) ?_
          exact ih (i + 1) (by omega) (lt_s hd (fun _ => zz_nI0 c_23 (Nat.lt_of_le_of_lt Nat.and_le_right (by omega)))) _ _ ls hP hD hS (lv_sub hl [1, 2, 0] rfl)
        · refine lv_iconst (v := 0) hx hb d_Rv_mayBeLeft_27 (by decide) ?_
          exact zz_reti C (rfl) hS () (⟨fun h => absurd (h i hic (by
                    rcases Nat.mod_two_eq_zero_or_one (m0 / 2 ^ i) with z | z
                    · exact absurd (by rw [z]; rfl) c_22
                    · exact z)) (fun z => c_23 (by rw [z]; rfl)), fun _ => rfl⟩) hP hD d_Rv_mayBeLeft_28

set_option maxHeartbeats 4000000 in
set_option maxRecDepth 100000 in
theorem c_Rv_mayBeLeft (l : Launch) (E : zG) (h0 c1 c2 tn : Nat) (fL fN : Nat → Int32) (bo : Int32) (nw : Nat → Nat) (m0 : Nat) (hm : m0 < 256) (hN : ∀ j, j < 8 → fN j = nI (nw j) ∧ nw j < 256) : zMet l y_Rv_mayBeLeft b_Rv_mayBeLeft 3 (some .boolean) 0 0 0 0 E [.ref h0, .int (nI m0)] [(h0, .inr (2, [.ref c1, .ref c2, .int (nI tn), .int bo])), (c1, zI E 8 fL), (c2, zI E 8 fN)] (zQi E (S := Unit) (fun r _ => (rv_stay nw m0 → r = 1) ∧ (¬ rv_stay nw m0 → r = 0)) (fun _ => [(h0, .inr (2, [.ref c1, .ref c2, .int (nI tn), .int bo])), (c1, zI E 8 fL), (c2, zI E 8 fN)])) := by
  refine zz_met (by decide +kernel) (Nat.le_of_ble_eq_true rfl) ?_
  intro p e s m below meth c A ls C hin hA hK hst hP hD hl
  obtain ⟨hx, hb, hr, hml, hown, hts, hlk⟩ := id C
  have hS : va_S A s.heap s.heap [] := va_S.rf
  have hl : lv_has ls 3 [(0, .ref h0), (1, .int (nI m0))] := hl
  refine lv_iconst (v := 0) hx hb d_Rv_mayBeLeft_0 (by decide) ?_
  refine lv_istore_n (lv' := [(2, .int 0), (0, .ref h0), (1, .int (nI m0))]) hx hb d_Rv_mayBeLeft_1 rfl hl (by decide) rfl (fun ls hl => ?_)
  have hl := lv_sub (l' := [(0, .ref h0), (1, .int (nI m0)), (2, .int (nI 0))]) hl [1, 2, 0] (rfl)
  exact lp_Rv_mayBeLeft hm hN C hA hK hst 8 0 (by omega) lt_0 _ _ ls hP hD hS hl
