set_option maxHeartbeats 4000000 in
set_option maxRecDepth 100000 in
theorem c_Rv_init (l : Launch) (E : zG) (h0 : Nat) : zMet l y_Rv_init b_Rv_init 1 none 2 40 2 16 E [.ref h0] [(h0, .inr (2, [.null, .null, .int 0, .int 0]))] (zQv E (S := Nat × Nat) (fun _ => True) (fun u => [(h0, .inr (2, [.ref u.1, .ref u.2, .int 0, .int 0])), (u.1, zI E 8 (fun _ => 0)), (u.2, zI E 8 (fun _ => 0))])) := by
  refine zz_met (by decide +kernel) (Nat.le_of_ble_eq_true rfl) ?_
  intro p e s m below meth c A ls C hin hA hK hst hP hD hl
  obtain ⟨hx, hb, hr, hml, hown, hts, hlk⟩ := id C
  have hS : va_S A s.heap s.heap [] := va_S.rf
  have hl : lv_has ls 1 [(0, .ref h0)] := hl
  refine lv_aload_n hx hb d_Rv_init_0 rfl (lv_at hl 0 rfl) ?_
  refine zz_gov (wr := []) [0] [] rfl rfl (by decide) (by decide) hA hP hD hS (zz_runIN (wc := [(h0, .inr (2, [.null, .null, .int 0, .int 0]))]) (As := []) (rest := []) C (c_Pz_init l E h0 2 [.null, .null, .int 0, .int 0]) ym_Pz_init wd_mn_Rv_3 wd_im_Pz_init rfl [0] (by decide) rfl hA hK hst hP hD hS rfl hl.1 rfl (Nat.le_of_ble_eq_true rfl) ⟨Nat.le_of_ble_eq_true rfl, Nat.le_of_ble_eq_true rfl⟩ ⟨Nat.le_of_ble_eq_true rfl, Nat.le_of_ble_eq_true rfl⟩ d_Rv_init_1) (fun u H locs hw hP hD hS => ?_)
  have hP : va_P E.1 vwCl [(h0, .inr (2, [.null, .null, .int 0, .int 0]))] H := hP
  have hD : va_D A [(h0, .inr (2, [.null, .null, .int 0, .int 0]))] := hD
  refine lv_aload_n hx hb d_Rv_init_4 rfl (lv_at hl 0 rfl) ?_
  refine lv_bipush (v := 8) hx hb d_Rv_init_5 (by decide) ?_
  refine zz_eqi (show (8 : Int32) = nI 8 from rfl) ?_
  refine zz_newI C hK hP hD hS hA (by decide) wd_ac_I (Nat.le_of_ble_eq_true rfl) (Nat.le_of_ble_eq_true rfl) d_Rv_init_7 (fun q_2 H hP hD hS => ?_)
  have hP : va_P E.1 vwCl [(h0, .inr (2, [.null, .null, .int 0, .int 0])), (q_2, zI E 8 (fun _ => 0))] H := hP
  have hD : va_D A [(h0, .inr (2, [.null, .null, .int 0, .int 0])), (q_2, zI E 8 (fun _ => 0))] := hD
  refine zz_putF C hin hK hP hD hS fl_Rv_11 (fun q h => by cases h; rfl) 0 rfl rfl rfl (Nat.le_of_ble_eq_true rfl) d_Rv_init_9 (fun H locs hP hD hS => ?_)
  have hP : va_P E.1 vwCl [(h0, .inr (2, [.ref q_2, .null, .int 0, .int 0])), (q_2, zI E 8 (fun _ => 0))] H := hP
  have hD : va_D A [(h0, .inr (2, [.ref q_2, .null, .int 0, .int 0])), (q_2, zI E 8 (fun _ => 0))] := hD
  refine lv_aload_n hx hb d_Rv_init_12 rfl (lv_at hl 0 rfl) ?_
  refine lv_bipush (v := 8) hx hb d_Rv_init_13 (by decide) ?_
  refine zz_eqi (show (8 : Int32) = nI 8 from rfl) ?_
  refine zz_newI C hK hP hD hS hA (by decide) wd_ac_I (Nat.le_of_ble_eq_true rfl) (Nat.le_of_ble_eq_true rfl) d_Rv_init_15 (fun q_3 H hP hD hS => ?_)
  have hP : va_P E.1 vwCl [(h0, .inr (2, [.ref q_2, .null, .int 0, .int 0])), (q_2, zI E 8 (fun _ => 0)), (q_3, zI E 8 (fun _ => 0))] H := hP
  have hD : va_D A [(h0, .inr (2, [.ref q_2, .null, .int 0, .int 0])), (q_2, zI E 8 (fun _ => 0)), (q_3, zI E 8 (fun _ => 0))] := hD
  refine zz_putF C hin hK hP hD hS fl_Rv_15 (fun q h => by cases h; rfl) 0 rfl rfl rfl (Nat.le_of_ble_eq_true rfl) d_Rv_init_17 (fun H locs hP hD hS => ?_)
  have hP : va_P E.1 vwCl [(h0, .inr (2, [.ref q_2, .ref q_3, .int 0, .int 0])), (q_2, zI E 8 (fun _ => 0)), (q_3, zI E 8 (fun _ => 0))] H := hP
  have hD : va_D A [(h0, .inr (2, [.ref q_2, .ref q_3, .int 0, .int 0])), (q_2, zI E 8 (fun _ => 0)), (q_3, zI E 8 (fun _ => 0))] := hD
  exact zz_retv C hS (q_2, q_3) (trivial) hP hD d_Rv_init_20

set_option maxHeartbeats 4000000 in
set_option maxRecDepth 100000 in
theorem c_Rv_clear (l : Launch) (E : zG) (h0 c1 c2 : Nat) (fL fN : Nat → Int32) (bo : Int32) (tt : Int32) : zMet l y_Rv_clear b_Rv_clear 1 none 1 23 0 0 E [.ref h0] [(h0, .inr (2, [.ref c1, .ref c2, .int tt, .int bo])), (c1, zI E 8 fL), (c2, zI E 8 fN)] (zQv E (S := (Nat → Int32) × (Nat → Int32)) (fun u => (∀ j, j < 8 → u.1 j = -1) ∧ (∀ j, j < 8 → u.2 j = 0)) (fun u => [(h0, .inr (2, [.ref c1, .ref c2, .int 0, .int 0])), (c1, zI E 8 u.1), (c2, zI E 8 u.2)])) := by
  refine zz_met (by decide +kernel) (Nat.le_of_ble_eq_true rfl) ?_
  intro p e s m below meth c A ls C hin hA hK hst hP hD hl
  obtain ⟨hx, hb, hr, hml, hown, hts, hlk⟩ := id C
  have hS : va_S A s.heap s.heap [] := va_S.rf
  have hl : lv_has ls 1 [(0, .ref h0)] := hl
  refine lv_aload_n hx hb d_Rv_clear_0 rfl (lv_at hl 0 rfl) ?_
  refine zz_get C hK hP fl_Rv_11 0 rfl rfl d_Rv_clear_1 ?_
  refine lv_iconst (v := (-1)) hx hb d_Rv_clear_4 (by decide) ?_
  refine zz_gov (wr := [(h0, .inr (2, [.ref c1, .ref c2, .int tt, .int bo])), (c2, zI E 8 fN)]) [1] [0, 2] rfl rfl (by decide) (by decide) hA hP hD hS (zz_runS (wc := [(c1, zI E 8 fL)]) (As := [.ref c1, .int (-1)]) (rest := []) C (c_Ar_fill l E c1 8 fL (-1) (by decide)) ym_Ar_fill wd_ml_Rv_18 wd_st_Ar_fill [1] (by decide) rfl hA hK hst hP hD hS rfl hl.1 rfl (Nat.le_of_ble_eq_true rfl) ⟨Nat.le_of_ble_eq_true rfl, Nat.le_of_ble_eq_true rfl⟩ ⟨Nat.le_of_ble_eq_true rfl, Nat.le_of_ble_eq_true rfl⟩ d_Rv_clear_5) (fun u1 H locs h1 hP hD hS => ?_)
  have hP : va_P E.1 vwCl [(h0, .inr (2, [.ref c1, .ref c2, .int tt, .int bo])), (c2, zI E 8 fN), (c1, zI E 8 u1)] H := hP
  have hD : va_D A [(h0, .inr (2, [.ref c1, .ref c2, .int tt, .int bo])), (c2, zI E 8 fN), (c1, zI E 8 u1)] := hD
  refine lv_aload_n hx hb d_Rv_clear_8 rfl (lv_at hl 0 rfl) ?_
  refine zz_get C hK hP fl_Rv_15 0 rfl rfl d_Rv_clear_9 ?_
  refine lv_iconst (v := 0) hx hb d_Rv_clear_12 (by decide) ?_
  refine zz_gov (wr := [(h0, .inr (2, [.ref c1, .ref c2, .int tt, .int bo])), (c1, zI E 8 u1)]) [1] [0, 2] rfl rfl (by decide) (by decide) hA hP hD hS (zz_runS (wc := [(c2, zI E 8 fN)]) (As := [.ref c2, .int 0]) (rest := []) C (c_Ar_fill l E c2 8 fN 0 (by decide)) ym_Ar_fill wd_ml_Rv_18 wd_st_Ar_fill [1] (by decide) rfl hA hK hst hP hD hS rfl hl.1 rfl (Nat.le_of_ble_eq_true rfl) ⟨Nat.le_of_ble_eq_true rfl, Nat.le_of_ble_eq_true rfl⟩ ⟨Nat.le_of_ble_eq_true rfl, Nat.le_of_ble_eq_true rfl⟩ d_Rv_clear_13) (fun u2 H locs h2 hP hD hS => ?_)
  have hP : va_P E.1 vwCl [(h0, .inr (2, [.ref c1, .ref c2, .int tt, .int bo])), (c1, zI E 8 u1), (c2, zI E 8 u2)] H := hP
  have hD : va_D A [(h0, .inr (2, [.ref c1, .ref c2, .int tt, .int bo])), (c1, zI E 8 u1), (c2, zI E 8 u2)] := hD
  refine lv_aload_n hx hb d_Rv_clear_16 rfl (lv_at hl 0 rfl) ?_
  refine lv_iconst (v := 0) hx hb d_Rv_clear_17 (by decide) ?_
  refine zz_put C hK hP hD hS fl_Rv_24 0 rfl rfl rfl (Nat.le_of_ble_eq_true rfl) d_Rv_clear_18 (fun H locs hP hD hS => ?_)
  have hP : va_P E.1 vwCl [(h0, .inr (2, [.ref c1, .ref c2, .int 0, .int bo])), (c1, zI E 8 u1), (c2, zI E 8 u2)] H := hP
  have hD : va_D A [(h0, .inr (2, [.ref c1, .ref c2, .int 0, .int bo])), (c1, zI E 8 u1), (c2, zI E 8 u2)] := hD
  refine lv_aload_n hx hb d_Rv_clear_21 rfl (lv_at hl 0 rfl) ?_
  refine lv_iconst (v := 0) hx hb d_Rv_clear_22 (by decide) ?_
  refine zz_put C hK hP hD hS fl_Rv_28 0 rfl rfl rfl (Nat.le_of_ble_eq_true rfl) d_Rv_clear_23 (fun H locs hP hD hS => ?_)
  have hP : va_P E.1 vwCl [(h0, .inr (2, [.ref c1, .ref c2, .int 0, .int 0])), (c1, zI E 8 u1), (c2, zI E 8 u2)] H := hP
  have hD : va_D A [(h0, .inr (2, [.ref c1, .ref c2, .int 0, .int 0])), (c1, zI E 8 u1), (c2, zI E 8 u2)] := hD
  have hP := hP.sub (ws' := [(h0, .inr (2, [.ref c1, .ref c2, .int 0, .int 0])), (c1, zI E 8 u1), (c2, zI E 8 u2)]) [0, 1, 2] rfl
  have hD := hD.sub (ws' := [(h0, .inr (2, [.ref c1, .ref c2, .int 0, .int 0])), (c1, zI E 8 u1), (c2, zI E 8 u2)]) [0, 1, 2] (by decide) rfl
  exact zz_retv C hS (u1, u2) (⟨h1, h2⟩) hP hD d_Rv_clear_26

set_option maxHeartbeats 4000000 in
set_option maxRecDepth 100000 in
theorem c_Rv_addThing (l : Launch) (E : zG) (h0 c1 c2 tn : Nat) (fL fN : Nat → Int32) (bo : Int32) (x : Int32) : zMet l y_Rv_addThing b_Rv_addThing 3 (some .boolean) 0 0 0 0 E [.ref h0, .int x] [(h0, .inr (2, [.ref c1, .ref c2, .int (nI tn), .int bo])), (c1, zI E 8 fL), (c2, zI E 8 fN)] (zQi E (S := (Nat → Int32) × Nat) (fun r u => (rv_addok fL x → r = 1 ∧ u = (upd fL (x - 97).toNatClampNeg (nI tn), tn + 1)) ∧ (¬ rv_addok fL x → r = 0 ∧ u = (fL, tn))) (fun u => [(h0, .inr (2, [.ref c1, .ref c2, .int (nI u.2), .int bo])), (c1, zI E 8 u.1), (c2, zI E 8 fN)])) := by
  refine zz_met (by decide +kernel) (Nat.le_of_ble_eq_true rfl) ?_
  intro p e s m below meth c A ls C hin hA hK hst hP hD hl
  obtain ⟨hx, hb, hr, hml, hown, hts, hlk⟩ := id C
  have hS : va_S A s.heap s.heap [] := va_S.rf
  have hl : lv_has ls 3 [(0, .ref h0), (1, .int x)] := hl
  refine lv_iload_n hx hb d_Rv_addThing_0 rfl (lv_at hl 1 rfl) ?_
  refine lv_bipush (v := 97) hx hb d_Rv_addThing_1 (by decide) ?_
  refine lv_isub hx hb d_Rv_addThing_3 ?_
  refine lv_istore_n (lv' := [(2, .int (x - 97)), (0, .ref h0), (1, .int x)]) hx hb d_Rv_addThing_4 rfl hl (by decide) rfl (fun ls hl => ?_)
  refine lv_iload_n hx hb d_Rv_addThing_5 rfl (lv_at hl 0 rfl) ?_
  refine lv_if_lt (tgt := 25) hx hb d_Rv_addThing_6 (by decide) (fun c_6 => ?_) (fun c_6 => ?_)
  · refine lv_iconst (v := 0) hx hb d_Rv_addThing_25 (by decide) ?_
    exact zz_reti C (rfl) hS (fL, tn) (⟨fun h => absurd h (by intro h; exact h.1 c_6), fun _ => ⟨rfl, rfl⟩⟩) hP hD d_Rv_addThing_26
  · refine lv_iload_n hx hb d_Rv_addThing_9 rfl (lv_at hl 0 rfl) ?_
    refine lv_bipush (v := 8) hx hb d_Rv_addThing_10 (by decide) ?_
    refine lv_icmp_ge (tgt := 25) hx hb d_Rv_addThing_12 (by decide) (fun c_7 => ?_) (fun c_7 => ?_)
    · refine lv_iconst (v := 0) hx hb d_Rv_addThing_25 (by decide) ?_
      exact zz_reti C (rfl) hS (fL, tn) (⟨fun h => absurd h (by intro h; exact h.2.1 c_7), fun _ => ⟨rfl, rfl⟩⟩) hP hD d_Rv_addThing_26
    · refine lv_aload_n hx hb d_Rv_addThing_15 rfl (lv_at hl 1 rfl) ?_
      refine zz_get C hK hP fl_Rv_11 0 rfl rfl d_Rv_addThing_16 ?_
      refine lv_iload_n hx hb d_Rv_addThing_19 rfl (lv_at hl 0 rfl) ?_
      refine zz_iald C hK hP 1 rfl (rv_vp8 c_6 c_7) d_Rv_addThing_20 ?_
      refine lv_iconst (v := (-1)) hx hb d_Rv_addThing_21 (by decide) ?_
      refine lv_icmp_eq (tgt := 27) hx hb d_Rv_addThing_22 (by decide) (fun c_8 => ?_) (fun c_8 => ?_)
      · refine lv_aload_n hx hb d_Rv_addThing_27 rfl (lv_at hl 1 rfl) ?_
        refine zz_get C hK hP fl_Rv_11 0 rfl rfl d_Rv_addThing_28 ?_
        refine lv_iload_n hx hb d_Rv_addThing_31 rfl (lv_at hl 0 rfl) ?_
        refine lv_aload_n hx hb d_Rv_addThing_32 rfl (lv_at hl 1 rfl) ?_
        refine zz_get C hK hP fl_Rv_24 0 rfl rfl d_Rv_addThing_33 ?_
        refine zz_iast C hK hP hD hS 1 rfl (rv_vp8 c_6 c_7) d_Rv_addThing_36 (fun H locs hP hD hS => ?_)
        have hP : va_P E.1 vwCl [(h0, .inr (2, [.ref c1, .ref c2, .int (nI tn), .int bo])), (c1, zI E 8 (upd fL (x - 97).toNatClampNeg (nI tn))), (c2, zI E 8 fN)] H := hP
        have hD : va_D A [(h0, .inr (2, [.ref c1, .ref c2, .int (nI tn), .int bo])), (c1, zI E 8 (upd fL (x - 97).toNatClampNeg (nI tn))), (c2, zI E 8 fN)] := hD
        refine lv_aload_n hx hb d_Rv_addThing_37 rfl (lv_at hl 1 rfl) ?_
        refine lv_dup hx hb d_Rv_addThing_38 rfl ?_
        refine zz_get C hK hP fl_Rv_24 0 rfl rfl d_Rv_addThing_39 ?_
        refine lv_iconst (v := 1) hx hb d_Rv_addThing_42 (by decide) ?_
        refine lv_iadd hx hb d_Rv_addThing_43 ?_
        refine zz_eqi (y := nI (tn + 1)) (nI_1 _) ?_
        refine zz_put C hK hP hD hS fl_Rv_24 0 rfl rfl rfl (Nat.le_of_ble_eq_true rfl) d_Rv_addThing_44 (fun H locs hP hD hS => ?_)
        have hP : va_P E.1 vwCl [(h0, .inr (2, [.ref c1, .ref c2, .int (nI (tn + 1)), .int bo])), (c1, zI E 8 (upd fL (x - 97).toNatClampNeg (nI tn))), (c2, zI E 8 fN)] H := hP
        have hD : va_D A [(h0, .inr (2, [.ref c1, .ref c2, .int (nI (tn + 1)), .int bo])), (c1, zI E 8 (upd fL (x - 97).toNatClampNeg (nI tn))), (c2, zI E 8 fN)] := hD
        refine lv_iconst (v := 1) hx hb d_Rv_addThing_47 (by decide) ?_
        exact zz_reti C (rfl) hS (upd fL (x - 97).toNatClampNeg (nI tn), tn + 1) (⟨fun _ => ⟨rfl, rfl⟩, fun h => absurd ⟨c_6, c_7, c_8⟩ h⟩) hP hD d_Rv_addThing_48
      · refine lv_iconst (v := 0) hx hb d_Rv_addThing_25 (by decide) ?_
        exact zz_reti C (rfl) hS (fL, tn) (⟨fun h => absurd h (by intro h; exact c_8 h.2.2), fun _ => ⟨rfl, rfl⟩⟩) hP hD d_Rv_addThing_26

set_option maxHeartbeats 4000000 in
set_option maxRecDepth 100000 in
theorem c_Rv_thingOf (l : Launch) (E : zG) (h0 c1 c2 tn : Nat) (fL fN : Nat → Int32) (bo : Int32) (x : Int32) : zMet l y_Rv_thingOf b_Rv_thingOf 3 (some .int) 0 0 0 0 E [.ref h0, .int x] [(h0, .inr (2, [.ref c1, .ref c2, .int (nI tn), .int bo])), (c1, zI E 8 fL), (c2, zI E 8 fN)] (zQi E (S := Unit) (fun r _ => r = rv_thing fL x) (fun _ => [(h0, .inr (2, [.ref c1, .ref c2, .int (nI tn), .int bo])), (c1, zI E 8 fL), (c2, zI E 8 fN)])) := by
  refine zz_met (by decide +kernel) (Nat.le_of_ble_eq_true rfl) ?_
  intro p e s m below meth c A ls C hin hA hK hst hP hD hl
  obtain ⟨hx, hb, hr, hml, hown, hts, hlk⟩ := id C
  have hS : va_S A s.heap s.heap [] := va_S.rf
  have hl : lv_has ls 3 [(0, .ref h0), (1, .int x)] := hl
  refine lv_iload_n hx hb d_Rv_thingOf_0 rfl (lv_at hl 1 rfl) ?_
  refine lv_bipush (v := 97) hx hb d_Rv_thingOf_1 (by decide) ?_
  refine lv_isub hx hb d_Rv_thingOf_3 ?_
  refine lv_istore_n (lv' := [(2, .int (x - 97)), (0, .ref h0), (1, .int x)]) hx hb d_Rv_thingOf_4 rfl hl (by decide) rfl (fun ls hl => ?_)
  refine lv_iload_n hx hb d_Rv_thingOf_5 rfl (lv_at hl 0 rfl) ?_
  refine lv_if_lt (tgt := 15) hx hb d_Rv_thingOf_6 (by decide) (fun c_9 => ?_) (fun c_9 => ?_)
  · refine lv_iconst (v := (-1)) hx hb d_Rv_thingOf_15 (by decide) ?_
    refine lv_goto (tgt := 25) hx hb d_Rv_thingOf_16 (by decide) ?_
    exact zz_reti C (rfl) hS () ((if_neg (fun h => h.1 c_9)).symm) hP hD d_Rv_thingOf_25
  · refine lv_iload_n hx hb d_Rv_thingOf_9 rfl (lv_at hl 0 rfl) ?_
    refine lv_bipush (v := 8) hx hb d_Rv_thingOf_10 (by decide) ?_
    refine lv_icmp_lt (tgt := 19) hx hb d_Rv_thingOf_12 (by decide) (fun c_10 => ?_) (fun c_10 => ?_)
    · refine lv_aload_n hx hb d_Rv_thingOf_19 rfl (lv_at hl 1 rfl) ?_
      refine zz_get C hK hP fl_Rv_11 0 rfl rfl d_Rv_thingOf_20 ?_
      refine lv_iload_n hx hb d_Rv_thingOf_23 rfl (lv_at hl 0 rfl) ?_
      refine zz_iald C hK hP 1 rfl (rv_vp8l c_9 c_10) d_Rv_thingOf_24 ?_
      exact zz_reti C (rfl) hS () ((if_pos (c := rv_lok x) ⟨c_9, c_10⟩).symm) hP hD d_Rv_thingOf_25
    · refine lv_iconst (v := (-1)) hx hb d_Rv_thingOf_15 (by decide) ?_
      refine lv_goto (tgt := 25) hx hb d_Rv_thingOf_16 (by decide) ?_
      exact zz_reti C (rfl) hS () ((if_neg (fun h => c_10 h.2)).symm) hP hD d_Rv_thingOf_25

set_option maxHeartbeats 4000000 in
set_option maxRecDepth 100000 in
theorem c_Rv_keepApart (l : Launch) (E : zG) (h0 c1 c2 tn : Nat) (fL fN : Nat → Int32) (bo : Int32) (x y : Int32) (ht : tn ≤ 8) : zMet l y_Rv_keepApart b_Rv_keepApart 3 (some .boolean) 0 0 0 0 E [.ref h0, .int x, .int y] [(h0, .inr (2, [.ref c1, .ref c2, .int (nI tn), .int bo])), (c1, zI E 8 fL), (c2, zI E 8 fN)] (zQi E (S := Nat → Int32) (fun r u => (rv_kok tn x y → r = 1 ∧ u = rv_keep fN x y) ∧ (¬ rv_kok tn x y → r = 0 ∧ u = fN)) (fun u => [(h0, .inr (2, [.ref c1, .ref c2, .int (nI tn), .int bo])), (c1, zI E 8 fL), (c2, zI E 8 u)])) := by
  refine zz_met (by decide +kernel) (Nat.le_of_ble_eq_true rfl) ?_
  intro p e s m below meth c A ls C hin hA hK hst hP hD hl
  obtain ⟨hx, hb, hr, hml, hown, hts, hlk⟩ := id C
  have hS : va_S A s.heap s.heap [] := va_S.rf
  have hl : lv_has ls 3 [(0, .ref h0), (1, .int x), (2, .int y)] := hl
  refine lv_iload_n hx hb d_Rv_keepApart_0 rfl (lv_at hl 1 rfl) ?_
  refine lv_if_lt (tgt := 29) hx hb d_Rv_keepApart_1 (by decide) (fun c_11 => ?_) (fun c_11 => ?_)
  · refine lv_iconst (v := 0) hx hb d_Rv_keepApart_29 (by decide) ?_
    exact zz_reti C (rfl) hS fN (⟨fun h => absurd h (by intro h; exact h.1 c_11), fun _ => ⟨rfl, rfl⟩⟩) hP hD d_Rv_keepApart_30
  · refine lv_iload_n hx hb d_Rv_keepApart_4 rfl (lv_at hl 1 rfl) ?_
    refine lv_aload_n hx hb d_Rv_keepApart_5 rfl (lv_at hl 0 rfl) ?_
    refine zz_get C hK hP fl_Rv_24 0 rfl rfl d_Rv_keepApart_6 ?_
    refine lv_icmp_ge (tgt := 29) hx hb d_Rv_keepApart_9 (by decide) (fun c_12 => ?_) (fun c_12 => ?_)
    · refine lv_iconst (v := 0) hx hb d_Rv_keepApart_29 (by decide) ?_
      exact zz_reti C (rfl) hS fN (⟨fun h => absurd h (by intro h; exact h.2.1 c_12), fun _ => ⟨rfl, rfl⟩⟩) hP hD d_Rv_keepApart_30
    · refine lv_iload_n hx hb d_Rv_keepApart_12 rfl (lv_at hl 2 rfl) ?_
      refine lv_if_lt (tgt := 29) hx hb d_Rv_keepApart_13 (by decide) (fun c_13 => ?_) (fun c_13 => ?_)
      · refine lv_iconst (v := 0) hx hb d_Rv_keepApart_29 (by decide) ?_
        exact zz_reti C (rfl) hS fN (⟨fun h => absurd h (by intro h; exact h.2.2.1 c_13), fun _ => ⟨rfl, rfl⟩⟩) hP hD d_Rv_keepApart_30
      · refine lv_iload_n hx hb d_Rv_keepApart_16 rfl (lv_at hl 2 rfl) ?_
        refine lv_aload_n hx hb d_Rv_keepApart_17 rfl (lv_at hl 0 rfl) ?_
        refine zz_get C hK hP fl_Rv_24 0 rfl rfl d_Rv_keepApart_18 ?_
        refine lv_icmp_ge (tgt := 29) hx hb d_Rv_keepApart_21 (by decide) (fun c_14 => ?_) (fun c_14 => ?_)
        · refine lv_iconst (v := 0) hx hb d_Rv_keepApart_29 (by decide) ?_
          exact zz_reti C (rfl) hS fN (⟨fun h => absurd h (by intro h; exact h.2.2.2.1 c_14), fun _ => ⟨rfl, rfl⟩⟩) hP hD d_Rv_keepApart_30
        · refine lv_iload_n hx hb d_Rv_keepApart_24 rfl (lv_at hl 1 rfl) ?_
          refine lv_iload_n hx hb d_Rv_keepApart_25 rfl (lv_at hl 2 rfl) ?_
          refine lv_icmp_ne (tgt := 31) hx hb d_Rv_keepApart_26 (by decide) (fun c_15 => ?_) (fun c_15 => ?_)
          · refine lv_aload_n hx hb d_Rv_keepApart_31 rfl (lv_at hl 0 rfl) ?_
            refine zz_get C hK hP fl_Rv_15 0 rfl rfl d_Rv_keepApart_32 ?_
            refine lv_iload_n hx hb d_Rv_keepApart_35 rfl (lv_at hl 1 rfl) ?_
            refine lv_dup2_11 hx hb d_Rv_keepApart_36 rfl rfl ?_
            refine zz_iald C hK hP 2 rfl (rv_vpt ht c_11 c_12) d_Rv_keepApart_37 ?_
            refine lv_iconst (v := 1) hx hb d_Rv_keepApart_38 (by decide) ?_
            refine lv_iload_n hx hb d_Rv_keepApart_39 rfl (lv_at hl 2 rfl) ?_
            refine lv_ishl hx hb d_Rv_keepApart_40 ?_
            refine lv_ior hx hb d_Rv_keepApart_41 ?_
            refine zz_iast C hK hP hD hS 2 rfl (rv_vpt ht c_11 c_12) d_Rv_keepApart_42 (fun H locs hP hD hS => ?_)
            have hP : va_P E.1 vwCl [(h0, .inr (2, [.ref c1, .ref c2, .int (nI tn), .int bo])), (c1, zI E 8 fL), (c2, zI E 8 (upd fN x.toNatClampNeg ((fN x.toNatClampNeg) ||| (1 <<< (y &&& 31)))))] H := hP
            have hD : va_D A [(h0, .inr (2, [.ref c1, .ref c2, .int (nI tn), .int bo])), (c1, zI E 8 fL), (c2, zI E 8 (upd fN x.toNatClampNeg ((fN x.toNatClampNeg) ||| (1 <<< (y &&& 31)))))] := hD
            refine lv_aload_n hx hb d_Rv_keepApart_43 rfl (lv_at hl 0 rfl) ?_
            refine zz_get C hK hP fl_Rv_15 0 rfl rfl d_Rv_keepApart_44 ?_
            refine lv_iload_n hx hb d_Rv_keepApart_47 rfl (lv_at hl 2 rfl) ?_
            refine lv_dup2_11 hx hb d_Rv_keepApart_48 rfl rfl ?_
            refine zz_iald C hK hP 2 rfl (rv_vpt ht c_13 c_14) d_Rv_keepApart_49 ?_
            refine lv_iconst (v := 1) hx hb d_Rv_keepApart_50 (by decide) ?_
            refine lv_iload_n hx hb d_Rv_keepApart_51 rfl (lv_at hl 1 rfl) ?_
            refine lv_ishl hx hb d_Rv_keepApart_52 ?_
            refine lv_ior hx hb d_Rv_keepApart_53 ?_
            refine zz_iast C hK hP hD hS 2 rfl (rv_vpt ht c_13 c_14) d_Rv_keepApart_54 (fun H locs hP hD hS => ?_)
            have hP : va_P E.1 vwCl [(h0, .inr (2, [.ref c1, .ref c2, .int (nI tn), .int bo])), (c1, zI E 8 fL), (c2, zI E 8 (upd (upd fN x.toNatClampNeg ((fN x.toNatClampNeg) ||| (1 <<< (y &&& 31)))) y.toNatClampNeg (((upd fN x.toNatClampNeg ((fN x.toNatClampNeg) ||| (1 <<< (y &&& 31)))) y.toNatClampNeg) ||| (1 <<< (x &&& 31)))))] H := hP
            have hD : va_D A [(h0, .inr (2, [.ref c1, .ref c2, .int (nI tn), .int bo])), (c1, zI E 8 fL), (c2, zI E 8 (upd (upd fN x.toNatClampNeg ((fN x.toNatClampNeg) ||| (1 <<< (y &&& 31)))) y.toNatClampNeg (((upd fN x.toNatClampNeg ((fN x.toNatClampNeg) ||| (1 <<< (y &&& 31)))) y.toNatClampNeg) ||| (1 <<< (x &&& 31)))))] := hD
            refine lv_iconst (v := 1) hx hb d_Rv_keepApart_55 (by decide) ?_
            exact zz_reti C (rfl) hS (rv_keep fN x y) (⟨fun _ => ⟨rfl, rfl⟩, fun h => absurd ⟨c_11, c_12, c_13, c_14, c_15⟩ h⟩) hP hD d_Rv_keepApart_56
          · refine lv_iconst (v := 0) hx hb d_Rv_keepApart_29 (by decide) ?_
            exact zz_reti C (rfl) hS fN (⟨fun h => absurd h (by intro h; exact h.2.2.2.2 c_15), fun _ => ⟨rfl, rfl⟩⟩) hP hD d_Rv_keepApart_30

set_option maxHeartbeats 4000000 in
set_option maxRecDepth 100000 in
theorem c_Rv_setBoat (l : Launch) (E : zG) (h0 c1 c2 tn : Nat) (fL fN : Nat → Int32) (bo : Int32) (x : Int32) : zMet l y_Rv_setBoat b_Rv_setBoat 2 (some .boolean) 0 0 0 0 E [.ref h0, .int x] [(h0, .inr (2, [.ref c1, .ref c2, .int (nI tn), .int bo])), (c1, zI E 8 fL), (c2, zI E 8 fN)] (zQi E (S := Int32) (fun r u => ((¬ x < 49 ∧ x ≤ 51) → r = 1 ∧ u = x - 48) ∧ (¬ (¬ x < 49 ∧ x ≤ 51) → r = 0 ∧ u = bo)) (fun u => [(h0, .inr (2, [.ref c1, .ref c2, .int (nI tn), .int u])), (c1, zI E 8 fL), (c2, zI E 8 fN)])) := by
  refine zz_met (by decide +kernel) (Nat.le_of_ble_eq_true rfl) ?_
  intro p e s m below meth c A ls C hin hA hK hst hP hD hl
  obtain ⟨hx, hb, hr, hml, hown, hts, hlk⟩ := id C
  have hS : va_S A s.heap s.heap [] := va_S.rf
  have hl : lv_has ls 2 [(0, .ref h0), (1, .int x)] := hl
  refine lv_iload_n hx hb d_Rv_setBoat_0 rfl (lv_at hl 1 rfl) ?_
  refine lv_bipush (v := 49) hx hb d_Rv_setBoat_1 (by decide) ?_
  refine lv_icmp_lt (tgt := 12) hx hb d_Rv_setBoat_3 (by decide) (fun c_16 => ?_) (fun c_16 => ?_)
  · refine lv_iconst (v := 0) hx hb d_Rv_setBoat_12 (by decide) ?_
    exact zz_reti C (rfl) hS bo (⟨fun h => absurd h (by intro h; exact h.1 c_16), fun _ => ⟨rfl, rfl⟩⟩) hP hD d_Rv_setBoat_13
  · refine lv_iload_n hx hb d_Rv_setBoat_6 rfl (lv_at hl 1 rfl) ?_
    refine lv_bipush (v := 51) hx hb d_Rv_setBoat_7 (by decide) ?_
    refine lv_icmp_le (tgt := 14) hx hb d_Rv_setBoat_9 (by decide) (fun c_17 => ?_) (fun c_17 => ?_)
    · refine lv_aload_n hx hb d_Rv_setBoat_14 rfl (lv_at hl 0 rfl) ?_
      refine lv_iload_n hx hb d_Rv_setBoat_15 rfl (lv_at hl 1 rfl) ?_
      refine lv_bipush (v := 48) hx hb d_Rv_setBoat_16 (by decide) ?_
      refine lv_isub hx hb d_Rv_setBoat_18 ?_
      refine zz_put C hK hP hD hS fl_Rv_28 0 rfl rfl rfl (Nat.le_of_ble_eq_true rfl) d_Rv_setBoat_19 (fun H locs hP hD hS => ?_)
      have hP : va_P E.1 vwCl [(h0, .inr (2, [.ref c1, .ref c2, .int (nI tn), .int (x - 48)])), (c1, zI E 8 fL), (c2, zI E 8 fN)] H := hP
      have hD : va_D A [(h0, .inr (2, [.ref c1, .ref c2, .int (nI tn), .int (x - 48)])), (c1, zI E 8 fL), (c2, zI E 8 fN)] := hD
      refine lv_iconst (v := 1) hx hb d_Rv_setBoat_22 (by decide) ?_
      exact zz_reti C (rfl) hS (x - 48) (⟨fun _ => ⟨rfl, rfl⟩, fun h => absurd ⟨c_16, c_17⟩ h⟩) hP hD d_Rv_setBoat_23
    · refine lv_iconst (v := 0) hx hb d_Rv_setBoat_12 (by decide) ?_
      exact zz_reti C (rfl) hS bo (⟨fun h => absurd h (by intro h; exact c_17 h.2), fun _ => ⟨rfl, rfl⟩⟩) hP hD d_Rv_setBoat_13

set_option maxHeartbeats 4000000 in
set_option maxRecDepth 100000 in
theorem c_Rv_stateCount (l : Launch) (E : zG) (h0 c1 c2 tn : Nat) (fL fN : Nat → Int32) (bo : Int32) : zMet l y_Rv_stateCount b_Rv_stateCount 1 (some .int) 0 0 0 0 E [.ref h0] [(h0, .inr (2, [.ref c1, .ref c2, .int (nI tn), .int bo])), (c1, zI E 8 fL), (c2, zI E 8 fN)] (zQi E (S := Unit) (fun r _ => r = nI 512) (fun _ => [(h0, .inr (2, [.ref c1, .ref c2, .int (nI tn), .int bo])), (c1, zI E 8 fL), (c2, zI E 8 fN)])) := by
  refine zz_met (by decide +kernel) (Nat.le_of_ble_eq_true rfl) ?_
  intro p e s m below meth c A ls C hin hA hK hst hP hD hl
  obtain ⟨hx, hb, hr, hml, hown, hts, hlk⟩ := id C
  have hS : va_S A s.heap s.heap [] := va_S.rf
  have hl : lv_has ls 1 [(0, .ref h0)] := hl
  refine lv_sipush (v := 512) hx hb d_Rv_stateCount_0 (by decide) ?_
  exact zz_reti C (rfl) hS () (rfl) hP hD d_Rv_stateCount_3

set_option maxHeartbeats 4000000 in
set_option maxRecDepth 100000 in
theorem c_Rv_startState (l : Launch) (E : zG) (h0 c1 c2 tn : Nat) (fL fN : Nat → Int32) (bo : Int32) : zMet l y_Rv_startState b_Rv_startState 1 (some .int) 0 0 0 0 E [.ref h0] [(h0, .inr (2, [.ref c1, .ref c2, .int (nI tn), .int bo])), (c1, zI E 8 fL), (c2, zI E 8 fN)] (zQi E (S := Unit) (fun r _ => r = nI 0) (fun _ => [(h0, .inr (2, [.ref c1, .ref c2, .int (nI tn), .int bo])), (c1, zI E 8 fL), (c2, zI E 8 fN)])) := by
  refine zz_met (by decide +kernel) (Nat.le_of_ble_eq_true rfl) ?_
  intro p e s m below meth c A ls C hin hA hK hst hP hD hl
  obtain ⟨hx, hb, hr, hml, hown, hts, hlk⟩ := id C
  have hS : va_S A s.heap s.heap [] := va_S.rf
  have hl : lv_has ls 1 [(0, .ref h0)] := hl
  refine lv_iconst (v := 0) hx hb d_Rv_startState_0 (by decide) ?_
  exact zz_reti C (rfl) hS () (rfl) hP hD d_Rv_startState_1

set_option maxHeartbeats 4000000 in
set_option maxRecDepth 100000 in
theorem c_Rv_allThings (l : Launch) (E : zG) (h0 c1 c2 tn : Nat) (fL fN : Nat → Int32) (bo : Int32) (ht : tn ≤ 8) : zMet l y_Rv_allThings b_Rv_allThings 1 (some .int) 0 0 0 0 E [.ref h0] [(h0, .inr (2, [.ref c1, .ref c2, .int (nI tn), .int bo])), (c1, zI E 8 fL), (c2, zI E 8 fN)] (zQi E (S := Unit) (fun r _ => r = nI (2 ^ tn - 1)) (fun _ => [(h0, .inr (2, [.ref c1, .ref c2, .int (nI tn), .int bo])), (c1, zI E 8 fL), (c2, zI E 8 fN)])) := by
  refine zz_met (by decide +kernel) (Nat.le_of_ble_eq_true rfl) ?_
  intro p e s m below meth c A ls C hin hA hK hst hP hD hl
  obtain ⟨hx, hb, hr, hml, hown, hts, hlk⟩ := id C
  have hS : va_S A s.heap s.heap [] := va_S.rf
  have hl : lv_has ls 1 [(0, .ref h0)] := hl
  refine lv_iconst (v := 1) hx hb d_Rv_allThings_0 (by decide) ?_
  refine lv_aload_n hx hb d_Rv_allThings_1 rfl (lv_at hl 0 rfl) ?_
  refine zz_get C hK hP fl_Rv_24 0 rfl rfl d_Rv_allThings_2 ?_
  refine lv_ishl hx hb d_Rv_allThings_5 ?_
  refine lv_iconst (v := 1) hx hb d_Rv_allThings_6 (by decide) ?_
  refine lv_isub hx hb d_Rv_allThings_7 ?_
  exact zz_reti C (rfl) hS () (rv_all tn (by omega)) hP hD d_Rv_allThings_8

set_option maxHeartbeats 4000000 in
set_option maxRecDepth 100000 in
theorem c_Rv_firstTold (l : Launch) (E : zG) (h0 c1 c2 tn : Nat) (fL fN : Nat → Int32) (bo : Int32) (k : Int32) : zMet l y_Rv_firstTold b_Rv_firstTold 2 (some .int) 0 0 0 0 E [.ref h0, .int k] [(h0, .inr (2, [.ref c1, .ref c2, .int (nI tn), .int bo])), (c1, zI E 8 fL), (c2, zI E 8 fN)] (zQi E (S := Unit) (fun r _ => r = k) (fun _ => [(h0, .inr (2, [.ref c1, .ref c2, .int (nI tn), .int bo])), (c1, zI E 8 fL), (c2, zI E 8 fN)])) := by
  refine zz_met (by decide +kernel) (Nat.le_of_ble_eq_true rfl) ?_
  intro p e s m below meth c A ls C hin hA hK hst hP hD hl
  obtain ⟨hx, hb, hr, hml, hown, hts, hlk⟩ := id C
  have hS : va_S A s.heap s.heap [] := va_S.rf
  have hl : lv_has ls 2 [(0, .ref h0), (1, .int k)] := hl
  refine lv_iload_n hx hb d_Rv_firstTold_0 rfl (lv_at hl 1 rfl) ?_
  exact zz_reti C (rfl) hS () (rfl) hP hD d_Rv_firstTold_1

set_option maxHeartbeats 4000000 in
set_option maxRecDepth 100000 in
theorem c_Rv_secondTold (l : Launch) (E : zG) (h0 c1 c2 tn : Nat) (fL fN : Nat → Int32) (bo : Int32) (k z : Int32) : zMet l y_Rv_secondTold b_Rv_secondTold 3 (some .int) 0 0 0 0 E [.ref h0, .int k, .int z] [(h0, .inr (2, [.ref c1, .ref c2, .int (nI tn), .int bo])), (c1, zI E 8 fL), (c2, zI E 8 fN)] (zQi E (S := Unit) (fun r _ => r = z &&& 255) (fun _ => [(h0, .inr (2, [.ref c1, .ref c2, .int (nI tn), .int bo])), (c1, zI E 8 fL), (c2, zI E 8 fN)])) := by
  refine zz_met (by decide +kernel) (Nat.le_of_ble_eq_true rfl) ?_
  intro p e s m below meth c A ls C hin hA hK hst hP hD hl
  obtain ⟨hx, hb, hr, hml, hown, hts, hlk⟩ := id C
  have hS : va_S A s.heap s.heap [] := va_S.rf
  have hl : lv_has ls 3 [(0, .ref h0), (1, .int k), (2, .int z)] := hl
  refine lv_iload_n hx hb d_Rv_secondTold_0 rfl (lv_at hl 2 rfl) ?_
  refine lv_sipush (v := 255) hx hb d_Rv_secondTold_1 (by decide) ?_
  refine lv_iand hx hb d_Rv_secondTold_4 ?_
  exact zz_reti C (rfl) hS () (rfl) hP hD d_Rv_secondTold_5

set_option maxHeartbeats 4000000 in
set_option maxRecDepth 100000 in
theorem c_Rv_isDone (l : Launch) (E : zG) (h0 c1 c2 tn : Nat) (fL fN : Nat → Int32) (bo : Int32) (x : Nat) (ht : tn ≤ 8) : zMet l y_Rv_isDone b_Rv_isDone 2 (some .boolean) 1 20 0 0 E [.ref h0, .int (nI x)] [(h0, .inr (2, [.ref c1, .ref c2, .int (nI tn), .int bo])), (c1, zI E 8 fL), (c2, zI E 8 fN)] (zQi E (S := Unit) (fun r _ => (x % 256 = 2 ^ tn - 1 → r = 1) ∧ (¬ x % 256 = 2 ^ tn - 1 → r = 0)) (fun _ => [(h0, .inr (2, [.ref c1, .ref c2, .int (nI tn), .int bo])), (c1, zI E 8 fL), (c2, zI E 8 fN)])) := by
  refine zz_met (by decide +kernel) (Nat.le_of_ble_eq_true rfl) ?_
  intro p e s m below meth c A ls C hin hA hK hst hP hD hl
  obtain ⟨hx, hb, hr, hml, hown, hts, hlk⟩ := id C
  have hS : va_S A s.heap s.heap [] := va_S.rf
  have hl : lv_has ls 2 [(0, .ref h0), (1, .int (nI x))] := hl
  refine lv_iload_n hx hb d_Rv_isDone_0 rfl (lv_at hl 1 rfl) ?_
  refine lv_sipush (v := 255) hx hb d_Rv_isDone_1 (by decide) ?_
  refine lv_iand hx hb d_Rv_isDone_4 ?_
  refine zz_eqi (y := nI (x % 256)) (rv_m255 x) ?_
  refine lv_aload_n hx hb d_Rv_isDone_5 rfl (lv_at hl 0 rfl) ?_
  refine zz_goi (wr := []) [0, 1, 2] [] rfl rfl (by decide) (by decide) hA hP hD hS (zz_runV (wc := [(h0, .inr (2, [.ref c1, .ref c2, .int (nI tn), .int bo])), (c1, zI E 8 fL), (c2, zI E 8 fN)]) (As := []) (rest := [.int (nI (x % 256))]) C (c_Rv_allThings l E h0 c1 c2 tn fL fN bo ht) ym_Rv_allThings wd_ml_Rv_31 wd_im_Rv_allThings wd_se_Rv_allThings [0, 1, 2] (by decide) rfl hA hK hst hP hD hS (ci := 2) (q0 := 0) rfl rfl rfl rfl hl.1 rfl (Nat.le_of_ble_eq_true rfl) ⟨Nat.le_of_ble_eq_true rfl, Nat.le_of_ble_eq_true rfl⟩ ⟨Nat.le_of_ble_eq_true rfl, Nat.le_of_ble_eq_true rfl⟩ d_Rv_isDone_6) (fun r_18 u H locs hw hP hD hS => ?_)
  have hP : va_P E.1 vwCl [(h0, .inr (2, [.ref c1, .ref c2, .int (nI tn), .int bo])), (c1, zI E 8 fL), (c2, zI E 8 fN)] H := hP
  have hD : va_D A [(h0, .inr (2, [.ref c1, .ref c2, .int (nI tn), .int bo])), (c1, zI E 8 fL), (c2, zI E 8 fN)] := hD
  subst hw
  have hp : 2 ^ tn ≤ 2 ^ 8 := Nat.pow_le_pow_right (by decide) ht
  refine lv_icmp_ne (tgt := 16) hx hb d_Rv_isDone_9 (by decide) (fun c_19 => ?_) (fun c_19 => ?_)
  · refine lv_iconst (v := 0) hx hb d_Rv_isDone_16 (by decide) ?_
    exact zz_reti C (rfl) hS () (⟨fun h => absurd (by rw [h]) c_19, fun _ => rfl⟩) hP hD d_Rv_isDone_17
  · refine lv_iconst (v := 1) hx hb d_Rv_isDone_12 (by decide) ?_
    refine lv_goto (tgt := 17) hx hb d_Rv_isDone_13 (by decide) ?_
    exact zz_reti C (rfl) hS () (⟨fun _ => rfl, fun h => absurd ((nI_eq (by omega) (by omega)).mp c_19) h⟩) hP hD d_Rv_isDone_17

set_option maxHeartbeats 4000000 in
set_option maxRecDepth 100000 in
theorem lp_Rv_mayBeLeft {p : Program} {l : Launch} {e : Env} {s : State} {m : MethodId} {below : List Frame} {meth : Method} {c : Code} {A : Nat → Prop}  {E : zG} {h0 c1 c2 tn : Nat} {fL fN : Nat → Int32} {bo : Int32} {nw : Nat → Nat} {m0 : Nat} (hm : m0 < 256) (hN : ∀ j, j < 8 → fN j = nI (nw j) ∧ nw j < 256) (C : cx p s m #[.ref h0, .int (nI m0)] meth c b_Rv_mayBeLeft 3 y_Rv_mayBeLeft.cls (some .boolean)) (hA : ∀ q, s.heap.size ≤ q → A q) (hK : kt E s) (hst : stt A s s.heap) :
    ∀ (f i : Nat) (_ : i + f = 8) (_ : ∀ j, j < i → m0 / 2 ^ j % 2 = 1 → nw j &&& m0 = 0) (H : Heap) (locs : List Loc) (ls : Array Slot), va_P E.1 vwCl [(h0, .inr (2, [.ref c1, .ref c2, .int (nI tn), .int bo])), (c1, zI E 8 fL), (c2, zI E 8 fN)] H → va_D A [(h0, .inr (2, [.ref c1, .ref c2, .int (nI tn), .int bo])), (c1, zI E 8 fL), (c2, zI E 8 fN)] → va_S A s.heap H locs → lv_has ls 3 [(0, .ref h0), (1, .int (nI m0)), (2, .int (nI i))] → W p l e (zR 0 0 0 0) s m #[.ref h0, .int (nI m0)] below meth c H locs 0 0 (MQ below ((zQi E (S := Unit) (fun r _ => (rv_stay nw m0 → r = 1) ∧ (¬ rv_stay nw m0 → r = 0)) (fun _ => [(h0, .inr (2, [.ref c1, .ref c2, .int (nI tn), .int bo])), (c1, zI E 8 fL), (c2, zI E 8 fN)])) A) #[.ref h0, .int (nI m0)] s 0 0 A) (F0 m 2 ls []) := by
  obtain ⟨hx, hb, hr, hml, hown, hts, hlk⟩ := id C
  intro f
  induction f with
  | zero =>
    intro i hi hd H locs ls hP hD hS hl
    have hi : i = 8 := by omega
    subst hi
    refine lv_iload_n hx hb d_Rv_mayBeLeft_2 rfl (lv_at hl 2 rfl) ?_
    refine lv_bipush (v := 8) hx hb d_Rv_mayBeLeft_3 (by decide) ?_
    refine lv_icmp_ge (tgt := 35) hx hb d_Rv_mayBeLeft_5 (by decide) (fun c_20 => ?_) (fun c_20 => ?_)
    · refine lv_iconst (v := 1) hx hb d_Rv_mayBeLeft_35 (by decide) ?_
      exact zz_reti C (rfl) hS () (⟨fun _ => rfl, fun h => absurd hd h⟩) hP hD d_Rv_mayBeLeft_36
    · exact absurd (nI_le (b := 8) (Nat.le_refl _) (by decide)) c_20
  | succ f ih =>
    intro i hi hd H locs ls hP hD hS hl
    have hic : i < 8 := by omega
    have hq := hN i hic
    refine lv_iload_n hx hb d_Rv_mayBeLeft_2 rfl (lv_at hl 2 rfl) ?_
    refine lv_bipush (v := 8) hx hb d_Rv_mayBeLeft_3 (by decide) ?_
    refine lv_icmp_ge (tgt := 35) hx hb d_Rv_mayBeLeft_5 (by decide) (fun c_21 => ?_) (fun c_21 => ?_)
    · exact absurd c_21 (nI_ge (b := 8) hic (by decide))
    · refine lv_iload_n hx hb d_Rv_mayBeLeft_8 rfl (lv_at hl 1 rfl) ?_
      refine lv_iload_n hx hb d_Rv_mayBeLeft_9 rfl (lv_at hl 2 rfl) ?_
      refine lv_ishr hx hb d_Rv_mayBeLeft_10 ?_
      refine lv_iconst (v := 1) hx hb d_Rv_mayBeLeft_11 (by decide) ?_
      refine lv_iand hx hb d_Rv_mayBeLeft_12 ?_
      refine zz_eqi (y := nI (m0 / 2 ^ i % 2)) (rv_bitE hm hic) ?_
      refine lv_if_eq (tgt := 29) hx hb d_Rv_mayBeLeft_13 (by decide) (fun c_22 => ?_) (fun c_22 => ?_)
      · refine lv_iinc (v := nI (i + 1)) (lv' := [(2, .int (nI (i + 1))), (0, .ref h0), (1, .int (nI m0))]) hx hb d_Rv_mayBeLeft_29 hl (k := 2) rfl (nI_1 _) (by decide) rfl (fun ls hl => ?_)
        refine lv_goto (tgt := 2) hx hb d_Rv_mayBeLeft_32 (by decide) ?_
        exact ih (i + 1) (by omega) (lt_s hd (fun h => absurd (c_22.symm.trans (by rw [h])) (by decide))) _ _ ls hP hD hS (lv_sub hl [1, 2, 0] rfl)
      · refine lv_aload_n hx hb d_Rv_mayBeLeft_16 rfl (lv_at hl 0 rfl) ?_
        refine zz_get C hK hP fl_Rv_15 0 rfl rfl d_Rv_mayBeLeft_17 ?_
        refine lv_iload_n hx hb d_Rv_mayBeLeft_20 rfl (lv_at hl 2 rfl) ?_
        refine zz_ialdN C hK hP 2 rfl (j := i) (hic) (by omega) d_Rv_mayBeLeft_21 ?_
        refine lv_iload_n hx hb d_Rv_mayBeLeft_22 rfl (lv_at hl 1 rfl) ?_
        refine lv_iand hx hb d_Rv_mayBeLeft_23 ?_
        refine zz_eqi (y := nI (nw i &&& m0)) (by rw [hq.1, nI_and]) ?_
        refine lv_if_eq (tgt := 29) hx hb d_Rv_mayBeLeft_24 (by decide) (fun c_23 => ?_) (fun c_23 => ?_)
        · refine lv_iinc (v := nI (i + 1)) (lv' := [(2, .int (nI (i + 1))), (0, .ref h0), (1, .int (nI m0))]) hx hb d_Rv_mayBeLeft_29 hl (k := 2) rfl (nI_1 _) (by decide) rfl (fun ls hl => ?_)
          refine lv_goto (tgt := 2) hx hb d_Rv_mayBeLeft_32 (by decide) ?_
          exact ih (i + 1) (by omega) (lt_s hd (fun _ => zz_nI0 c_23 (Nat.lt_of_le_of_lt Nat.and_le_right (by omega)))) _ _ ls hP hD hS (lv_sub hl [1, 2, 0] rfl)
        · refine lv_iconst (v := 0) hx hb d_Rv_mayBeLeft_27 (by decide) ?_
          exact zz_reti C (rfl) hS () (⟨fun h => absurd (h i hic (by
                    rcases Nat.mod_two_eq_zero_or_one (m0 / 2 ^ i) with z | z
                    · exact absurd (by rw [z]; rfl) c_22
                    · exact z)) (fun z => c_23 (by rw [z]; rfl)), fun _ => rfl⟩) hP hD d_Rv_mayBeLeft_28

set_option maxHeartbeats 4000000 in
set_option maxRecDepth 100000 in
theorem c_Rv_mayBeLeft (l : Launch) (E : zG) (h0 c1 c2 tn : Nat) (fL fN : Nat → Int32) (bo : Int32) (nw : Nat → Nat) (m0 : Nat) (hm : m0 < 256) (hN : ∀ j, j < 8 → fN j = nI (nw j) ∧ nw j < 256) : zMet l y_Rv_mayBeLeft b_Rv_mayBeLeft 3 (some .boolean) 0 0 0 0 E [.ref h0, .int (nI m0)] [(h0, .inr (2, [.ref c1, .ref c2, .int (nI tn), .int bo])), (c1, zI E 8 fL), (c2, zI E 8 fN)] (zQi E (S := Unit) (fun r _ => (rv_stay nw m0 → r = 1) ∧ (¬ rv_stay nw m0 → r = 0)) (fun _ => [(h0, .inr (2, [.ref c1, .ref c2, .int (nI tn), .int bo])), (c1, zI E 8 fL), (c2, zI E 8 fN)])) := by
  refine zz_met (by decide +kernel) (Nat.le_of_ble_eq_true rfl) ?_
  intro p e s m below meth c A ls C hin hA hK hst hP hD hl
  obtain ⟨hx, hb, hr, hml, hown, hts, hlk⟩ := id C
  have hS : va_S A s.heap s.heap [] := va_S.rf
  have hl : lv_has ls 3 [(0, .ref h0), (1, .int (nI m0))] := hl
  refine lv_iconst (v := 0) hx hb d_Rv_mayBeLeft_0 (by decide) ?_
  refine lv_istore_n (lv' := [(2, .int 0), (0, .ref h0), (1, .int (nI m0))]) hx hb d_Rv_mayBeLeft_1 rfl hl (by decide) rfl (fun ls hl => ?_)
  have hl := lv_sub (l' := [(0, .ref h0), (1, .int (nI m0)), (2, .int (nI 0))]) hl [1, 2, 0] (rfl)
  exact lp_Rv_mayBeLeft hm hN C hA hK hst 8 0 (by omega) lt_0 _ _ ls hP hD hS hl

set_option maxHeartbeats 4000000 in
set_option maxRecDepth 100000 in
theorem lp_Rv_meetNext {p : Program} {l : Launch} {e : Env} {s : State} {m : MethodId} {below : List Frame} {meth : Method} {c : Code} {A : Nat → Prop}  {E : zG} {h0 c1 c2 tn bt : Nat} {fL fN : Nat → Int32} {nw : Nat → Nat} {g0 a1 a2 n : Nat} {st : (Nat → Nat) × List Nat} {x : Nat} (ht : tn ≤ 8) (hbt : bt ≤ 3) (hN : ∀ j, j < 8 → fN j = nI (nw j) ∧ nw j < 256) (hx0 : x < 512) (hn : n ≤ 10000) (hn5 : 512 ≤ n) {v4 : Int32} {bank on : Nat} (hbank : bank < 256) (hon : on = 0 ∨ on = 256) (C : cx p s m #[.ref h0, .int (nI x), .ref g0] meth c b_Rv_meetNext 9 y_Rv_meetNext.cls none) (hA : ∀ q, s.heap.size ≤ q → A q) (hK : kt E s) (hst : stt A s s.heap) :
    ∀ (f i t : Nat) (S : (Nat → Nat) × List Nat) (fT fQ : Nat → Int32) (_ : i + f = 256) (_ : t < 256) (_ : rv_go nw bt x bank on f t S = rv_next tn nw bt x st) (_ : bfs_RS n S fT fQ) (_ : bfs_I n x S) (H : Heap) (locs : List Loc) (ls : Array Slot), va_P E.1 vwCl [(h0, .inr (2, [.ref c1, .ref c2, .int (nI tn), .int (nI bt)])), (c1, zI E 8 fL), (c2, zI E 8 fN), (g0, .inr (4, [.ref a1, .ref a2, .int (nI S.2.length)])), (a1, zI E n fT), (a2, zI E n fQ)] H → va_D A [(h0, .inr (2, [.ref c1, .ref c2, .int (nI tn), .int (nI bt)])), (c1, zI E 8 fL), (c2, zI E 8 fN), (g0, .inr (4, [.ref a1, .ref a2, .int (nI S.2.length)])), (a1, zI E n fT), (a2, zI E n fQ)] → va_S A s.heap H locs → lv_has ls 9 [(0, .ref h0), (1, .int (nI x)), (2, .ref g0), (3, .int (nI (x % 256))), (4, .int v4), (5, .int (nI bank)), (6, .int (nI on)), (7, .int (nI t)), (8, .int (nI i))] → W p l e (zR 1 23 0 0) s m #[.ref h0, .int (nI x), .ref g0] below meth c H locs 0 0 (MQ below ((zQv E (S := (Nat → Int32) × (Nat → Int32)) (fun u => bfs_RS n (rv_next tn nw bt x st) u.1 u.2) (fun u => [(h0, .inr (2, [.ref c1, .ref c2, .int (nI tn), .int (nI bt)])), (c1, zI E 8 fL), (c2, zI E 8 fN), (g0, .inr (4, [.ref a1, .ref a2, .int (nI (rv_next tn nw bt x st).2.length)])), (a1, zI E n u.1), (a2, zI E n u.2)])) A) #[.ref h0, .int (nI x), .ref g0] s 0 0 A) (F0 m 60 ls []) := by
  obtain ⟨hx, hb, hr, hml, hown, hts, hlk⟩ := id C
  have hxn : x < n := by omega
  intro f
  induction f with
  | zero =>
    intro i t S fT fQ hi ht2 hgo hR hI H locs ls hP hD hS hl
    have hi : i = 256 := by omega
    subst hi
    have hgo : S = rv_next tn nw bt x st := hgo
    subst hgo
    refine lv_iload hx hb d_Rv_meetNext_60 (lv_at hl 8 rfl) ?_
    refine lv_sipush (v := 256) hx hb d_Rv_meetNext_62 (by decide) ?_
    refine lv_icmp_ge (tgt := 132) hx hb d_Rv_meetNext_65 (by decide) (fun c_24 => ?_) (fun c_24 => ?_)
    · exact zz_retv C hS (fT, fQ) (hR) hP hD d_Rv_meetNext_132
    · exact absurd (nI_le (b := 256) (Nat.le_refl _) (by decide)) c_24
  | succ f ih =>
    intro i t S fT fQ hi ht2 hgo hR hI H locs ls hP hD hS hl
    refine lv_iload hx hb d_Rv_meetNext_60 (lv_at hl 8 rfl) ?_
    refine lv_sipush (v := 256) hx hb d_Rv_meetNext_62 (by decide) ?_
    refine lv_icmp_ge (tgt := 132) hx hb d_Rv_meetNext_65 (by decide) (fun c_25 => ?_) (fun c_25 => ?_)
    · exact absurd c_25 (nI_ge (b := 256) (by omega) (by decide))
    · refine lv_iload hx hb d_Rv_meetNext_68 (lv_at hl 7 rfl) ?_
      refine zz_goi (wr := [(h0, .inr (2, [.ref c1, .ref c2, .int (nI tn), .int (nI bt)])), (c1, zI E 8 fL), (c2, zI E 8 fN), (g0, .inr (4, [.ref a1, .ref a2, .int (nI S.2.length)])), (a1, zI E n fT), (a2, zI E n fQ)]) [] [0, 1, 2, 3, 4, 5] rfl rfl (by decide) (by decide) hA hP hD hS (zz_runS (wc := []) (As := [.int (nI t)]) (rest := []) C (c_Ig_bitCount l E t ht2) ym_Ig_bitCount wd_ml_Rv_35 wd_st_Ig_bitCount [] (by decide) rfl hA hK hst hP hD hS rfl hl.1 rfl (Nat.le_of_ble_eq_true rfl) ⟨Nat.le_of_ble_eq_true rfl, Nat.le_of_ble_eq_true rfl⟩ ⟨Nat.le_of_ble_eq_true rfl, Nat.le_of_ble_eq_true rfl⟩ d_Rv_meetNext_70) (fun r_26 u H locs hw hP hD hS => ?_)
      have hP : va_P E.1 vwCl [(h0, .inr (2, [.ref c1, .ref c2, .int (nI tn), .int (nI bt)])), (c1, zI E 8 fL), (c2, zI E 8 fN), (g0, .inr (4, [.ref a1, .ref a2, .int (nI S.2.length)])), (a1, zI E n fT), (a2, zI E n fQ)] H := hP
      have hD : va_D A [(h0, .inr (2, [.ref c1, .ref c2, .int (nI tn), .int (nI bt)])), (c1, zI E 8 fL), (c2, zI E 8 fN), (g0, .inr (4, [.ref a1, .ref a2, .int (nI S.2.length)])), (a1, zI E n fT), (a2, zI E n fQ)] := hD
      subst hw
      have hpl := rv_pop_le t
      refine lv_aload_n hx hb d_Rv_meetNext_73 rfl (lv_at hl 0 rfl) ?_
      refine zz_get C hK hP fl_Rv_28 0 rfl rfl d_Rv_meetNext_74 ?_
      refine lv_icmp_gt (tgt := 108) hx hb d_Rv_meetNext_77 (by decide) (fun c_27 => ?_) (fun c_27 => ?_)
      · have hc0 : ¬ (rv_pop t ≤ bt ∧ rv_stay nw (rv_wo bank t)) := fun h => absurd (nI_le h.1 (by omega)) (zz_nle c_27)
        have hgo1 : (if t = bank then S else rv_go nw bt x bank on f (rv_nx bank t) S) = rv_next tn nw bt x st := by rw [← hgo, rv_go, if_neg hc0]
        refine lv_iload hx hb d_Rv_meetNext_108 (lv_at hl 7 rfl) ?_
        refine lv_iload hx hb d_Rv_meetNext_110 (lv_at hl 5 rfl) ?_
        refine lv_icmp_ne (tgt := 116) hx hb d_Rv_meetNext_112 (by decide) (fun c_28 => ?_) (fun c_28 => ?_)
        · have hne : ¬ t = bank := fun z => c_28 (by rw [z])
          rw [if_neg hne] at hgo1
          refine lv_iload hx hb d_Rv_meetNext_116 (lv_at hl 7 rfl) ?_
          refine lv_iload hx hb d_Rv_meetNext_118 (lv_at hl 5 rfl) ?_
          refine lv_isub hx hb d_Rv_meetNext_120 ?_
          refine lv_iload hx hb d_Rv_meetNext_121 (lv_at hl 5 rfl) ?_
          refine lv_iand hx hb d_Rv_meetNext_123 ?_
          refine zz_eqi (y := nI (rv_nx bank t)) (rv_nxE hbank ht2) ?_
          refine lv_istore (lv' := [(7, .int (nI (rv_nx bank t))), (0, .ref h0), (1, .int (nI x)), (2, .ref g0), (3, .int (nI (x % 256))), (4, .int v4), (5, .int (nI bank)), (6, .int (nI on)), (8, .int (nI i))]) hx hb d_Rv_meetNext_124 hl (by decide) rfl (fun ls hl => ?_)
          refine lv_iinc (v := nI (i + 1)) (lv' := [(8, .int (nI (i + 1))), (7, .int (nI (rv_nx bank t))), (0, .ref h0), (1, .int (nI x)), (2, .ref g0), (3, .int (nI (x % 256))), (4, .int v4), (5, .int (nI bank)), (6, .int (nI on))]) hx hb d_Rv_meetNext_126 hl (k := 8) rfl (nI_1 _) (by decide) rfl (fun ls hl => ?_)
          refine lv_goto (tgt := 60) hx hb d_Rv_meetNext_129 (by decide) ?_
          exact ih (i + 1) (rv_nx bank t) S fT fQ (by omega) (rv_nx_lt hbank) hgo1 hR hI _ _ ls hP hD hS (lv_sub hl [2, 3, 4, 5, 6, 7, 8, 1, 0] rfl)
        · have he : t = bank := (nI_eq (by omega) (by omega)).mp c_28
          rw [if_pos he] at hgo1
          have hP : va_P E.1 vwCl [(h0, .inr (2, [.ref c1, .ref c2, .int (nI tn), .int (nI bt)])), (c1, zI E 8 fL), (c2, zI E 8 fN), (g0, .inr (4, [.ref a1, .ref a2, .int (nI (rv_next tn nw bt x st).2.length)])), (a1, zI E n fT), (a2, zI E n fQ)] H := by rw [← hgo1]; exact hP
          have hD : va_D A [(h0, .inr (2, [.ref c1, .ref c2, .int (nI tn), .int (nI bt)])), (c1, zI E 8 fL), (c2, zI E 8 fN), (g0, .inr (4, [.ref a1, .ref a2, .int (nI (rv_next tn nw bt x st).2.length)])), (a1, zI E n fT), (a2, zI E n fQ)] := by rw [← hgo1]; exact hD
          exact zz_retv C hS (fT, fQ) (by rw [← hgo1]; exact hR) hP hD d_Rv_meetNext_115
      · have hc1 : rv_pop t ≤ bt := by
          rcases Nat.lt_or_ge bt (rv_pop t) with q | q
          · exact absurd (nI_lt q (by omega)) c_27
          · exact q
        refine lv_aload_n hx hb d_Rv_meetNext_80 rfl (lv_at hl 0 rfl) ?_
        refine lv_iload hx hb d_Rv_meetNext_81 (lv_at hl 5 rfl) ?_
        refine lv_iload hx hb d_Rv_meetNext_83 (lv_at hl 7 rfl) ?_
        refine lv_iconst (v := (-1)) hx hb d_Rv_meetNext_85 (by decide) ?_
        refine lv_ixor hx hb d_Rv_meetNext_86 ?_
        refine lv_iand hx hb d_Rv_meetNext_87 ?_
        refine zz_eqi (y := nI (rv_wo bank t)) (rv_woE hbank) ?_
        refine zz_goi (wr := [(g0, .inr (4, [.ref a1, .ref a2, .int (nI S.2.length)])), (a1, zI E n fT), (a2, zI E n fQ)]) [0, 1, 2] [3, 4, 5] rfl rfl (by decide) (by decide) hA hP hD hS (zz_runV (wc := [(h0, .inr (2, [.ref c1, .ref c2, .int (nI tn), .int (nI bt)])), (c1, zI E 8 fL), (c2, zI E 8 fN)]) (As := [.int (nI (rv_wo bank t))]) (rest := []) C (c_Rv_mayBeLeft l E h0 c1 c2 tn fL fN (nI bt) nw (rv_wo bank t) (rv_wo_lt hbank) hN) ym_Rv_mayBeLeft wd_ml_Rv_41 wd_im_Rv_mayBeLeft wd_se_Rv_mayBeLeft [0, 1, 2] (by decide) rfl hA hK hst hP hD hS (ci := 2) (q0 := 0) rfl rfl rfl rfl hl.1 rfl (Nat.le_of_ble_eq_true rfl) ⟨Nat.le_of_ble_eq_true rfl, Nat.le_of_ble_eq_true rfl⟩ ⟨Nat.le_of_ble_eq_true rfl, Nat.le_of_ble_eq_true rfl⟩ d_Rv_meetNext_88) (fun rl u H locs hw hP hD hS => ?_)
        have hP : va_P E.1 vwCl [(g0, .inr (4, [.ref a1, .ref a2, .int (nI S.2.length)])), (a1, zI E n fT), (a2, zI E n fQ), (h0, .inr (2, [.ref c1, .ref c2, .int (nI tn), .int (nI bt)])), (c1, zI E 8 fL), (c2, zI E 8 fN)] H := hP
        have hD : va_D A [(g0, .inr (4, [.ref a1, .ref a2, .int (nI S.2.length)])), (a1, zI E n fT), (a2, zI E n fQ), (h0, .inr (2, [.ref c1, .ref c2, .int (nI tn), .int (nI bt)])), (c1, zI E 8 fL), (c2, zI E 8 fN)] := hD
        have hP := hP.sub (ws' := [(h0, .inr (2, [.ref c1, .ref c2, .int (nI tn), .int (nI bt)])), (c1, zI E 8 fL), (c2, zI E 8 fN), (g0, .inr (4, [.ref a1, .ref a2, .int (nI S.2.length)])), (a1, zI E n fT), (a2, zI E n fQ)]) [3, 4, 5, 0, 1, 2] rfl
        have hD := hD.sub (ws' := [(h0, .inr (2, [.ref c1, .ref c2, .int (nI tn), .int (nI bt)])), (c1, zI E 8 fL), (c2, zI E 8 fN), (g0, .inr (4, [.ref a1, .ref a2, .int (nI S.2.length)])), (a1, zI E n fT), (a2, zI E n fQ)]) [3, 4, 5, 0, 1, 2] (by decide) rfl
        refine lv_if_eq (tgt := 108) hx hb d_Rv_meetNext_91 (by decide) (fun c_29 => ?_) (fun c_29 => ?_)
        · have hc0 : ¬ (rv_pop t ≤ bt ∧ rv_stay nw (rv_wo bank t)) := fun h => absurd ((hw.1 h.2).symm.trans c_29) (by decide)
          have hgo1 : (if t = bank then S else rv_go nw bt x bank on f (rv_nx bank t) S) = rv_next tn nw bt x st := by rw [← hgo, rv_go, if_neg hc0]
          refine lv_iload hx hb d_Rv_meetNext_108 (lv_at hl 7 rfl) ?_
          refine lv_iload hx hb d_Rv_meetNext_110 (lv_at hl 5 rfl) ?_
          refine lv_icmp_ne (tgt := 116) hx hb d_Rv_meetNext_112 (by decide) (fun c_30 => ?_) (fun c_30 => ?_)
          · have hne : ¬ t = bank := fun z => c_30 (by rw [z])
            rw [if_neg hne] at hgo1
            refine lv_iload hx hb d_Rv_meetNext_116 (lv_at hl 7 rfl) ?_
            refine lv_iload hx hb d_Rv_meetNext_118 (lv_at hl 5 rfl) ?_
            refine lv_isub hx hb d_Rv_meetNext_120 ?_
            refine lv_iload hx hb d_Rv_meetNext_121 (lv_at hl 5 rfl) ?_
            refine lv_iand hx hb d_Rv_meetNext_123 ?_
            refine zz_eqi (y := nI (rv_nx bank t)) (rv_nxE hbank ht2) ?_
            refine lv_istore (lv' := [(7, .int (nI (rv_nx bank t))), (0, .ref h0), (1, .int (nI x)), (2, .ref g0), (3, .int (nI (x % 256))), (4, .int v4), (5, .int (nI bank)), (6, .int (nI on)), (8, .int (nI i))]) hx hb d_Rv_meetNext_124 hl (by decide) rfl (fun ls hl => ?_)
            refine lv_iinc (v := nI (i + 1)) (lv' := [(8, .int (nI (i + 1))), (7, .int (nI (rv_nx bank t))), (0, .ref h0), (1, .int (nI x)), (2, .ref g0), (3, .int (nI (x % 256))), (4, .int v4), (5, .int (nI bank)), (6, .int (nI on))]) hx hb d_Rv_meetNext_126 hl (k := 8) rfl (nI_1 _) (by decide) rfl (fun ls hl => ?_)
            refine lv_goto (tgt := 60) hx hb d_Rv_meetNext_129 (by decide) ?_
            exact ih (i + 1) (rv_nx bank t) S fT fQ (by omega) (rv_nx_lt hbank) hgo1 hR hI _ _ ls hP hD hS (lv_sub hl [2, 3, 4, 5, 6, 7, 8, 1, 0] rfl)
          · have he : t = bank := (nI_eq (by omega) (by omega)).mp c_30
            rw [if_pos he] at hgo1
            have hP : va_P E.1 vwCl [(h0, .inr (2, [.ref c1, .ref c2, .int (nI tn), .int (nI bt)])), (c1, zI E 8 fL), (c2, zI E 8 fN), (g0, .inr (4, [.ref a1, .ref a2, .int (nI (rv_next tn nw bt x st).2.length)])), (a1, zI E n fT), (a2, zI E n fQ)] H := by rw [← hgo1]; exact hP
            have hD : va_D A [(h0, .inr (2, [.ref c1, .ref c2, .int (nI tn), .int (nI bt)])), (c1, zI E 8 fL), (c2, zI E 8 fN), (g0, .inr (4, [.ref a1, .ref a2, .int (nI (rv_next tn nw bt x st).2.length)])), (a1, zI E n fT), (a2, zI E n fQ)] := by rw [← hgo1]; exact hD
            exact zz_retv C hS (fT, fQ) (by rw [← hgo1]; exact hR) hP hD d_Rv_meetNext_115
        · have hc0 : rv_pop t ≤ bt ∧ rv_stay nw (rv_wo bank t) := ⟨hc1, Classical.byContradiction (fun h => c_29 (hw.2 h))⟩
          refine lv_aload_n hx hb d_Rv_meetNext_94 rfl (lv_at hl 2 rfl) ?_
          refine lv_iload hx hb d_Rv_meetNext_95 (lv_at hl 6 rfl) ?_
          refine lv_iload_n hx hb d_Rv_meetNext_97 rfl (lv_at hl 3 rfl) ?_
          refine lv_iload hx hb d_Rv_meetNext_98 (lv_at hl 7 rfl) ?_
          refine lv_ixor hx hb d_Rv_meetNext_100 ?_
          refine zz_eqi (y := nI (x % 256 ^^^ t)) (nI_xor _ _) ?_
          refine lv_ior hx hb d_Rv_meetNext_101 ?_
          refine zz_eqi (y := nI (on ||| (x % 256 ^^^ t))) (nI_or _ _) ?_
          refine lv_iload_n hx hb d_Rv_meetNext_102 rfl (lv_at hl 1 rfl) ?_
          refine lv_iload hx hb d_Rv_meetNext_103 (lv_at hl 7 rfl) ?_
          refine zz_gov (wr := [(h0, .inr (2, [.ref c1, .ref c2, .int (nI tn), .int (nI bt)])), (c1, zI E 8 fL), (c2, zI E 8 fN)]) [3, 4, 5] [0, 1, 2] rfl rfl (by decide) (by decide) hA hP hD hS (zz_runV (wc := [(g0, .inr (4, [.ref a1, .ref a2, .int (nI S.2.length)])), (a1, zI E n fT), (a2, zI E n fQ)]) (As := [.int (nI (on ||| (x % 256 ^^^ t))), .int (nI x), .int (nI t)]) (rest := []) C (c_Se_meet l E g0 a1 a2 n fT fQ S (on ||| (x % 256 ^^^ t)) x t hn (Nat.lt_of_lt_of_le (rv_tgt_lt hon (by omega) ht2) hn5) hxn ht2 hR hI.1) ym_Se_meet wd_ml_Rv_45 wd_im_Se_meet wd_se_Se_meet [3, 4, 5] (by decide) rfl hA hK hst hP hD hS (ci := 4) (q0 := 0) rfl rfl rfl rfl hl.1 rfl (Nat.le_of_ble_eq_true rfl) ⟨Nat.le_of_ble_eq_true rfl, Nat.le_of_ble_eq_true rfl⟩ ⟨Nat.le_of_ble_eq_true rfl, Nat.le_of_ble_eq_true rfl⟩ d_Rv_meetNext_105) (fun u1 H locs hR hP hD hS => ?_)
          have hP : va_P E.1 vwCl [(h0, .inr (2, [.ref c1, .ref c2, .int (nI tn), .int (nI bt)])), (c1, zI E 8 fL), (c2, zI E 8 fN), (g0, .inr (4, [.ref a1, .ref a2, .int (nI (bfs_mt S x (on ||| (x % 256 ^^^ t), t)).2.length)])), (a1, zI E n u1.1), (a2, zI E n u1.2)] H := hP
          have hD : va_D A [(h0, .inr (2, [.ref c1, .ref c2, .int (nI tn), .int (nI bt)])), (c1, zI E 8 fL), (c2, zI E 8 fN), (g0, .inr (4, [.ref a1, .ref a2, .int (nI (bfs_mt S x (on ||| (x % 256 ^^^ t), t)).2.length)])), (a1, zI E n u1.1), (a2, zI E n u1.2)] := hD
          have hI : bfs_I n x (bfs_mt S x (on ||| (x % 256 ^^^ t), t)) := bfs_mt_I hI hn hxn (Nat.lt_of_lt_of_le (rv_tgt_lt hon (by omega) ht2) hn5) ht2
          have hgo1 : (if t = bank then (bfs_mt S x (on ||| (x % 256 ^^^ t), t)) else rv_go nw bt x bank on f (rv_nx bank t) (bfs_mt S x (on ||| (x % 256 ^^^ t), t))) = rv_next tn nw bt x st := by rw [← hgo, rv_go, if_pos hc0]
          refine lv_iload hx hb d_Rv_meetNext_108 (lv_at hl 7 rfl) ?_
          refine lv_iload hx hb d_Rv_meetNext_110 (lv_at hl 5 rfl) ?_
          refine lv_icmp_ne (tgt := 116) hx hb d_Rv_meetNext_112 (by decide) (fun c_32 => ?_) (fun c_32 => ?_)
          · have hne : ¬ t = bank := fun z => c_32 (by rw [z])
            rw [if_neg hne] at hgo1
            refine lv_iload hx hb d_Rv_meetNext_116 (lv_at hl 7 rfl) ?_
            refine lv_iload hx hb d_Rv_meetNext_118 (lv_at hl 5 rfl) ?_
            refine lv_isub hx hb d_Rv_meetNext_120 ?_
            refine lv_iload hx hb d_Rv_meetNext_121 (lv_at hl 5 rfl) ?_
            refine lv_iand hx hb d_Rv_meetNext_123 ?_
            refine zz_eqi (y := nI (rv_nx bank t)) (rv_nxE hbank ht2) ?_
            refine lv_istore (lv' := [(7, .int (nI (rv_nx bank t))), (0, .ref h0), (1, .int (nI x)), (2, .ref g0), (3, .int (nI (x % 256))), (4, .int v4), (5, .int (nI bank)), (6, .int (nI on)), (8, .int (nI i))]) hx hb d_Rv_meetNext_124 hl (by decide) rfl (fun ls hl => ?_)
            refine lv_iinc (v := nI (i + 1)) (lv' := [(8, .int (nI (i + 1))), (7, .int (nI (rv_nx bank t))), (0, .ref h0), (1, .int (nI x)), (2, .ref g0), (3, .int (nI (x % 256))), (4, .int v4), (5, .int (nI bank)), (6, .int (nI on))]) hx hb d_Rv_meetNext_126 hl (k := 8) rfl (nI_1 _) (by decide) rfl (fun ls hl => ?_)
            refine lv_goto (tgt := 60) hx hb d_Rv_meetNext_129 (by decide) ?_
            exact ih (i + 1) (rv_nx bank t) (bfs_mt S x (on ||| (x % 256 ^^^ t), t)) u1.1 u1.2 (by omega) (rv_nx_lt hbank) hgo1 hR hI _ _ ls hP hD hS (lv_sub hl [2, 3, 4, 5, 6, 7, 8, 1, 0] rfl)
          · have he : t = bank := (nI_eq (by omega) (by omega)).mp c_32
            rw [if_pos he] at hgo1
            have hP : va_P E.1 vwCl [(h0, .inr (2, [.ref c1, .ref c2, .int (nI tn), .int (nI bt)])), (c1, zI E 8 fL), (c2, zI E 8 fN), (g0, .inr (4, [.ref a1, .ref a2, .int (nI (rv_next tn nw bt x st).2.length)])), (a1, zI E n u1.1), (a2, zI E n u1.2)] H := by rw [← hgo1]; exact hP
            have hD : va_D A [(h0, .inr (2, [.ref c1, .ref c2, .int (nI tn), .int (nI bt)])), (c1, zI E 8 fL), (c2, zI E 8 fN), (g0, .inr (4, [.ref a1, .ref a2, .int (nI (rv_next tn nw bt x st).2.length)])), (a1, zI E n u1.1), (a2, zI E n u1.2)] := by rw [← hgo1]; exact hD
            exact zz_retv C hS (u1.1, u1.2) (by rw [← hgo1]; exact hR) hP hD d_Rv_meetNext_115

set_option maxHeartbeats 4000000 in
set_option maxRecDepth 100000 in
theorem c_Rv_meetNext (l : Launch) (E : zG) (h0 c1 c2 tn bt : Nat) (fL fN : Nat → Int32) (nw : Nat → Nat) (g0 a1 a2 n : Nat) (fT fQ : Nat → Int32) (st : (Nat → Nat) × List Nat) (x : Nat) (ht : tn ≤ 8) (hbt : bt ≤ 3) (hN : ∀ j, j < 8 → fN j = nI (nw j) ∧ nw j < 256) (hx0 : x < 512) (hn : n ≤ 10000) (hn5 : 512 ≤ n) (hR : bfs_RS n st fT fQ) (hI : bfs_I n x st) : zMet l y_Rv_meetNext b_Rv_meetNext 9 none 1 23 0 0 E [.ref h0, .int (nI x), .ref g0] [(h0, .inr (2, [.ref c1, .ref c2, .int (nI tn), .int (nI bt)])), (c1, zI E 8 fL), (c2, zI E 8 fN), (g0, .inr (4, [.ref a1, .ref a2, .int (nI st.2.length)])), (a1, zI E n fT), (a2, zI E n fQ)] (zQv E (S := (Nat → Int32) × (Nat → Int32)) (fun u => bfs_RS n (rv_next tn nw bt x st) u.1 u.2) (fun u => [(h0, .inr (2, [.ref c1, .ref c2, .int (nI tn), .int (nI bt)])), (c1, zI E 8 fL), (c2, zI E 8 fN), (g0, .inr (4, [.ref a1, .ref a2, .int (nI (rv_next tn nw bt x st).2.length)])), (a1, zI E n u.1), (a2, zI E n u.2)])) := by
  refine zz_met (by decide +kernel) (Nat.le_of_ble_eq_true rfl) ?_
  intro p e s m below meth c A ls C hin hA hK hst hP hD hl
  obtain ⟨hx, hb, hr, hml, hown, hts, hlk⟩ := id C
  have hS : va_S A s.heap s.heap [] := va_S.rf
  have hl : lv_has ls 9 [(0, .ref h0), (1, .int (nI x)), (2, .ref g0)] := hl
  have hp : 2 ^ tn ≤ 2 ^ 8 := Nat.pow_le_pow_right (by decide) ht
  rcases Nat.lt_or_ge x 256 with hq | hq
  · refine lv_iload_n hx hb d_Rv_meetNext_0 rfl (lv_at hl 1 rfl) ?_
    refine lv_sipush (v := 255) hx hb d_Rv_meetNext_1 (by decide) ?_
    refine lv_iand hx hb d_Rv_meetNext_4 ?_
    refine zz_eqi (y := nI (x % 256)) (rv_m255 x) ?_
    refine lv_istore_n (lv' := [(3, .int (nI (x % 256))), (0, .ref h0), (1, .int (nI x)), (2, .ref g0)]) hx hb d_Rv_meetNext_5 rfl hl (by decide) rfl (fun ls hl => ?_)
    refine lv_iload_n hx hb d_Rv_meetNext_6 rfl (lv_at hl 2 rfl) ?_
    refine lv_sipush (v := 256) hx hb d_Rv_meetNext_7 (by decide) ?_
    refine lv_iand hx hb d_Rv_meetNext_10 ?_
    refine zz_eqi (y := nI (x / 256 * 256)) (rv_m256 hx0) ?_
    refine lv_if_eq (tgt := 18) hx hb d_Rv_meetNext_11 (by decide) (fun c_33 => ?_) (fun c_33 => ?_)
    · refine lv_iconst (v := 0) hx hb d_Rv_meetNext_18 (by decide) ?_
      refine lv_istore (lv' := [(4, .int 0), (3, .int (nI (x % 256))), (0, .ref h0), (1, .int (nI x)), (2, .ref g0)]) hx hb d_Rv_meetNext_19 hl (by decide) rfl (fun ls hl => ?_)
      refine lv_iload hx hb d_Rv_meetNext_21 (lv_at hl 0 rfl) ?_
      refine lv_if_eq (tgt := 30) hx hb d_Rv_meetNext_23 (by decide) (fun c_34 => ?_) (fun c_34 => ?_)
      · refine lv_aload_n hx hb d_Rv_meetNext_30 rfl (lv_at hl 2 rfl) ?_
        refine zz_goi (wr := [(g0, .inr (4, [.ref a1, .ref a2, .int (nI st.2.length)])), (a1, zI E n fT), (a2, zI E n fQ)]) [0, 1, 2] [3, 4, 5] rfl rfl (by decide) (by decide) hA hP hD hS (zz_runV (wc := [(h0, .inr (2, [.ref c1, .ref c2, .int (nI tn), .int (nI bt)])), (c1, zI E 8 fL), (c2, zI E 8 fN)]) (As := []) (rest := []) C (c_Rv_allThings l E h0 c1 c2 tn fL fN (nI bt) ht) ym_Rv_allThings wd_ml_Rv_31 wd_im_Rv_allThings wd_se_Rv_allThings [0, 1, 2] (by decide) rfl hA hK hst hP hD hS (ci := 2) (q0 := 0) rfl rfl rfl rfl hl.1 rfl (Nat.le_of_ble_eq_true rfl) ⟨Nat.le_of_ble_eq_true rfl, Nat.le_of_ble_eq_true rfl⟩ ⟨Nat.le_of_ble_eq_true rfl, Nat.le_of_ble_eq_true rfl⟩ d_Rv_meetNext_31) (fun r_35 u H locs hw hP hD hS => ?_)
        have hP : va_P E.1 vwCl [(g0, .inr (4, [.ref a1, .ref a2, .int (nI st.2.length)])), (a1, zI E n fT), (a2, zI E n fQ), (h0, .inr (2, [.ref c1, .ref c2, .int (nI tn), .int (nI bt)])), (c1, zI E 8 fL), (c2, zI E 8 fN)] H := hP
        have hD : va_D A [(g0, .inr (4, [.ref a1, .ref a2, .int (nI st.2.length)])), (a1, zI E n fT), (a2, zI E n fQ), (h0, .inr (2, [.ref c1, .ref c2, .int (nI tn), .int (nI bt)])), (c1, zI E 8 fL), (c2, zI E 8 fN)] := hD
        subst hw
        have hP := hP.sub (ws' := [(h0, .inr (2, [.ref c1, .ref c2, .int (nI tn), .int (nI bt)])), (c1, zI E 8 fL), (c2, zI E 8 fN), (g0, .inr (4, [.ref a1, .ref a2, .int (nI st.2.length)])), (a1, zI E n fT), (a2, zI E n fQ)]) [3, 4, 5, 0, 1, 2] rfl
        have hD := hD.sub (ws' := [(h0, .inr (2, [.ref c1, .ref c2, .int (nI tn), .int (nI bt)])), (c1, zI E 8 fL), (c2, zI E 8 fN), (g0, .inr (4, [.ref a1, .ref a2, .int (nI st.2.length)])), (a1, zI E n fT), (a2, zI E n fQ)]) [3, 4, 5, 0, 1, 2] (by decide) rfl
        refine lv_iload_n hx hb d_Rv_meetNext_34 rfl (lv_at hl 1 rfl) ?_
        refine lv_iconst (v := (-1)) hx hb d_Rv_meetNext_35 (by decide) ?_
        refine lv_ixor hx hb d_Rv_meetNext_36 ?_
        refine lv_iand hx hb d_Rv_meetNext_37 ?_
        refine zz_eqi (y := nI (rv_wo (2 ^ tn - 1) (x % 256))) (rv_woE (by omega)) ?_
        refine lv_istore (lv' := [(5, .int (nI (rv_wo (2 ^ tn - 1) (x % 256)))), (4, .int 0), (3, .int (nI (x % 256))), (0, .ref h0), (1, .int (nI x)), (2, .ref g0)]) hx hb d_Rv_meetNext_38 hl (by decide) rfl (fun ls hl => ?_)
        refine lv_iload hx hb d_Rv_meetNext_40 (lv_at hl 1 rfl) ?_
        refine lv_if_eq (tgt := 49) hx hb d_Rv_meetNext_42 (by decide) (fun c_36 => ?_) (fun c_36 => ?_)
        · refine lv_sipush (v := 256) hx hb d_Rv_meetNext_49 (by decide) ?_
          refine lv_istore (lv' := [(6, .int 256), (5, .int (nI (rv_wo (2 ^ tn - 1) (x % 256)))), (4, .int 0), (3, .int (nI (x % 256))), (0, .ref h0), (1, .int (nI x)), (2, .ref g0)]) hx hb d_Rv_meetNext_52 hl (by decide) rfl (fun ls hl => ?_)
          refine lv_iconst (v := 0) hx hb d_Rv_meetNext_54 (by decide) ?_
          refine lv_istore (lv' := [(7, .int 0), (6, .int 256), (5, .int (nI (rv_wo (2 ^ tn - 1) (x % 256)))), (4, .int 0), (3, .int (nI (x % 256))), (0, .ref h0), (1, .int (nI x)), (2, .ref g0)]) hx hb d_Rv_meetNext_55 hl (by decide) rfl (fun ls hl => ?_)
          refine lv_iconst (v := 0) hx hb d_Rv_meetNext_57 (by decide) ?_
          refine lv_istore (lv' := [(8, .int 0), (7, .int 0), (6, .int 256), (5, .int (nI (rv_wo (2 ^ tn - 1) (x % 256)))), (4, .int 0), (3, .int (nI (x % 256))), (0, .ref h0), (1, .int (nI x)), (2, .ref g0)]) hx hb d_Rv_meetNext_58 hl (by decide) rfl (fun ls hl => ?_)
          have hl := lv_sub (l' := [(0, .ref h0), (1, .int (nI x)), (2, .ref g0), (3, .int (nI (x % 256))), (4, .int 0), (5, .int (nI (rv_wo (2 ^ tn - 1) (x % 256)))), (6, .int (nI 256)), (7, .int (nI 0)), (8, .int (nI 0))]) hl [6, 7, 8, 5, 4, 3, 2, 1, 0] (rfl)
          exact lp_Rv_meetNext ht hbt hN hx0 hn hn5 (bank := rv_wo (2 ^ tn - 1) (x % 256)) (on := 256) (rv_wo_lt (by omega)) (by decide) C hA hK hst 256 0 0 st fT fQ (by omega) (by decide) (by unfold rv_next rv_bank rv_on; rw [if_pos hq, if_pos hq]) hR hI _ _ ls hP hD hS hl
        · exact absurd rfl c_36
      · exact absurd rfl c_34
    · exact absurd (by rw [show x / 256 = 0 by omega]; rfl) c_33
  · refine lv_iload_n hx hb d_Rv_meetNext_0 rfl (lv_at hl 1 rfl) ?_
    refine lv_sipush (v := 255) hx hb d_Rv_meetNext_1 (by decide) ?_
    refine lv_iand hx hb d_Rv_meetNext_4 ?_
    refine zz_eqi (y := nI (x % 256)) (rv_m255 x) ?_
    refine lv_istore_n (lv' := [(3, .int (nI (x % 256))), (0, .ref h0), (1, .int (nI x)), (2, .ref g0)]) hx hb d_Rv_meetNext_5 rfl hl (by decide) rfl (fun ls hl => ?_)
    refine lv_iload_n hx hb d_Rv_meetNext_6 rfl (lv_at hl 2 rfl) ?_
    refine lv_sipush (v := 256) hx hb d_Rv_meetNext_7 (by decide) ?_
    refine lv_iand hx hb d_Rv_meetNext_10 ?_
    refine zz_eqi (y := nI (x / 256 * 256)) (rv_m256 hx0) ?_
    refine lv_if_eq (tgt := 18) hx hb d_Rv_meetNext_11 (by decide) (fun c_37 => ?_) (fun c_37 => ?_)
    · exact absurd (zz_nI0 c_37 (by omega)) (by omega)
    · refine lv_iconst (v := 1) hx hb d_Rv_meetNext_14 (by decide) ?_
      refine lv_goto (tgt := 19) hx hb d_Rv_meetNext_15 (by decide) ?_
      refine lv_istore (lv' := [(4, .int 1), (3, .int (nI (x % 256))), (0, .ref h0), (1, .int (nI x)), (2, .ref g0)]) hx hb d_Rv_meetNext_19 hl (by decide) rfl (fun ls hl => ?_)
      refine lv_iload hx hb d_Rv_meetNext_21 (lv_at hl 0 rfl) ?_
      refine lv_if_eq (tgt := 30) hx hb d_Rv_meetNext_23 (by decide) (fun c_38 => ?_) (fun c_38 => ?_)
      · exact absurd c_38 (by decide)
      · refine lv_iload_n hx hb d_Rv_meetNext_26 rfl (lv_at hl 1 rfl) ?_
        refine lv_goto (tgt := 38) hx hb d_Rv_meetNext_27 (by decide) ?_
        refine lv_istore (lv' := [(5, .int (nI (x % 256))), (4, .int 1), (3, .int (nI (x % 256))), (0, .ref h0), (1, .int (nI x)), (2, .ref g0)]) hx hb d_Rv_meetNext_38 hl (by decide) rfl (fun ls hl => ?_)
        refine lv_iload hx hb d_Rv_meetNext_40 (lv_at hl 1 rfl) ?_
        refine lv_if_eq (tgt := 49) hx hb d_Rv_meetNext_42 (by decide) (fun c_39 => ?_) (fun c_39 => ?_)
        · exact absurd c_39 (by decide)
        · refine lv_iconst (v := 0) hx hb d_Rv_meetNext_45 (by decide) ?_
          refine lv_goto (tgt := 52) hx hb d_Rv_meetNext_46 (by decide) ?_
          refine lv_istore (lv' := [(6, .int 0), (5, .int (nI (x % 256))), (4, .int 1), (3, .int (nI (x % 256))), (0, .ref h0), (1, .int (nI x)), (2, .ref g0)]) hx hb d_Rv_meetNext_52 hl (by decide) rfl (fun ls hl => ?_)
          refine lv_iconst (v := 0) hx hb d_Rv_meetNext_54 (by decide) ?_
          refine lv_istore (lv' := [(7, .int 0), (6, .int 0), (5, .int (nI (x % 256))), (4, .int 1), (3, .int (nI (x % 256))), (0, .ref h0), (1, .int (nI x)), (2, .ref g0)]) hx hb d_Rv_meetNext_55 hl (by decide) rfl (fun ls hl => ?_)
          refine lv_iconst (v := 0) hx hb d_Rv_meetNext_57 (by decide) ?_
          refine lv_istore (lv' := [(8, .int 0), (7, .int 0), (6, .int 0), (5, .int (nI (x % 256))), (4, .int 1), (3, .int (nI (x % 256))), (0, .ref h0), (1, .int (nI x)), (2, .ref g0)]) hx hb d_Rv_meetNext_58 hl (by decide) rfl (fun ls hl => ?_)
          have hl := lv_sub (l' := [(0, .ref h0), (1, .int (nI x)), (2, .ref g0), (3, .int (nI (x % 256))), (4, .int 1), (5, .int (nI (x % 256))), (6, .int (nI 0)), (7, .int (nI 0)), (8, .int (nI 0))]) hl [6, 7, 8, 5, 4, 3, 2, 1, 0] (rfl)
          exact lp_Rv_meetNext ht hbt hN hx0 hn hn5 (bank := x % 256) (on := 0) (by omega) (by decide) C hA hK hst 256 0 0 st fT fQ (by omega) (by decide) (by unfold rv_next rv_bank rv_on; rw [if_neg (Nat.not_lt.mpr hq), if_neg (Nat.not_lt.mpr hq)]) hR hI _ _ ls hP hD hS hl
