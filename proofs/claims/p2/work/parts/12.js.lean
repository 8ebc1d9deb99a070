set_option maxHeartbeats 4000000 in
set_option maxRecDepth 100000 in
theorem c_Pz_init (l : Launch) (E : zG) (h0 : Nat) (ci : Nat) (fs : List Value) : zMet l y_Pz_init b_Pz_init 1 none 1 20 0 0 E [.ref h0] [(h0, .inr (ci, fs))] (zQv E (S := Unit) (fun _ => True) (fun _ => [(h0, .inr (ci, fs))])) := by
  refine zz_met (by decide +kernel) (Nat.le_of_ble_eq_true rfl) ?_
  intro p e s m below meth c A ls C hin hA hK hst hP hD hl
  obtain ⟨hx, hb, hr, hml, hown, hts, hlk⟩ := id C
  have hS : va_S A s.heap s.heap [] := va_S.rf
  have hl : lv_has ls 1 [(0, .ref h0)] := hl
  refine lv_aload_n hx hb d_Pz_init_0 rfl (lv_at hl 0 rfl) ?_
  refine zz_oi C wd_ml_Pz_1 wd_im_obj wd_cd_obj hl.1 (Nat.le_of_ble_eq_true rfl) (Nat.le_of_ble_eq_true rfl) d_Pz_init_1 ?_
  exact zz_retv C hS () (trivial) hP hD d_Pz_init_4

set_option maxHeartbeats 4000000 in
set_option maxRecDepth 100000 in
theorem c_Js_init (l : Launch) (E : zG) (h0 : Nat) : zMet l y_Js_init b_Js_init 1 none 2 40 4 16 E [.ref h0] [(h0, .inr (1, [.null, .null, .null, .null, .int 0]))] (zQv E (S := Nat × Nat × Nat × Nat) (fun _ => True) (fun u => [(h0, .inr (1, [.ref u.1, .ref u.2.1, .ref u.2.2.1, .ref u.2.2.2, .int 0])), (u.1, zI E 4 (fun _ => 0)), (u.2.1, zI E 4 (fun _ => 0)), (u.2.2.1, zI E 4 (fun _ => 0)), (u.2.2.2, zI E 4 (fun _ => 0))])) := by
  refine zz_met (by decide +kernel) (Nat.le_of_ble_eq_true rfl) ?_
  intro p e s m below meth c A ls C hin hA hK hst hP hD hl
  obtain ⟨hx, hb, hr, hml, hown, hts, hlk⟩ := id C
  have hS : va_S A s.heap s.heap [] := va_S.rf
  have hl : lv_has ls 1 [(0, .ref h0)] := hl
  refine lv_aload_n hx hb d_Js_init_0 rfl (lv_at hl 0 rfl) ?_
  refine zz_gov (wr := []) [0] [] rfl rfl (by decide) (by decide) hA hP hD hS (zz_runIN (wc := [(h0, .inr (1, [.null, .null, .null, .null, .int 0]))]) (As := []) (rest := []) C (c_Pz_init l E h0 1 [.null, .null, .null, .null, .int 0]) ym_Pz_init wd_mn_Js_5 wd_im_Pz_init rfl [0] (by decide) rfl hA hK hst hP hD hS rfl hl.1 rfl (Nat.le_of_ble_eq_true rfl) ⟨Nat.le_of_ble_eq_true rfl, Nat.le_of_ble_eq_true rfl⟩ ⟨Nat.le_of_ble_eq_true rfl, Nat.le_of_ble_eq_true rfl⟩ d_Js_init_1) (fun u H locs hw hP hD hS => ?_)
  have hP : va_P E.1 vwCl [(h0, .inr (1, [.null, .null, .null, .null, .int 0]))] H := hP
  have hD : va_D A [(h0, .inr (1, [.null, .null, .null, .null, .int 0]))] := hD
  refine lv_aload_n hx hb d_Js_init_4 rfl (lv_at hl 0 rfl) ?_
  refine lv_iconst (v := 4) hx hb d_Js_init_5 (by decide) ?_
  refine zz_eqi (show (4 : Int32) = nI 4 from rfl) ?_
  refine zz_newI C hK hP hD hS hA (by decide) wd_ac_I (Nat.le_of_ble_eq_true rfl) (Nat.le_of_ble_eq_true rfl) d_Js_init_6 (fun q_2 H hP hD hS => ?_)
  have hP : va_P E.1 vwCl [(h0, .inr (1, [.null, .null, .null, .null, .int 0])), (q_2, zI E 4 (fun _ => 0))] H := hP
  have hD : va_D A [(h0, .inr (1, [.null, .null, .null, .null, .int 0])), (q_2, zI E 4 (fun _ => 0))] := hD
  refine zz_putF C hin hK hP hD hS fl_Js_11 (fun q h => by cases h; rfl) 0 rfl rfl rfl (Nat.le_of_ble_eq_true rfl) d_Js_init_8 (fun H locs hP hD hS => ?_)
  have hP : va_P E.1 vwCl [(h0, .inr (1, [.ref q_2, .null, .null, .null, .int 0])), (q_2, zI E 4 (fun _ => 0))] H := hP
  have hD : va_D A [(h0, .inr (1, [.ref q_2, .null, .null, .null, .int 0])), (q_2, zI E 4 (fun _ => 0))] := hD
  refine lv_aload_n hx hb d_Js_init_11 rfl (lv_at hl 0 rfl) ?_
  refine lv_iconst (v := 4) hx hb d_Js_init_12 (by decide) ?_
  refine zz_eqi (show (4 : Int32) = nI 4 from rfl) ?_
  refine zz_newI C hK hP hD hS hA (by decide) wd_ac_I (Nat.le_of_ble_eq_true rfl) (Nat.le_of_ble_eq_true rfl) d_Js_init_13 (fun q_3 H hP hD hS => ?_)
  have hP : va_P E.1 vwCl [(h0, .inr (1, [.ref q_2, .null, .null, .null, .int 0])), (q_2, zI E 4 (fun _ => 0)), (q_3, zI E 4 (fun _ => 0))] H := hP
  have hD : va_D A [(h0, .inr (1, [.ref q_2, .null, .null, .null, .int 0])), (q_2, zI E 4 (fun _ => 0)), (q_3, zI E 4 (fun _ => 0))] := hD
  refine zz_putF C hin hK hP hD hS fl_Js_15 (fun q h => by cases h; rfl) 0 rfl rfl rfl (Nat.le_of_ble_eq_true rfl) d_Js_init_15 (fun H locs hP hD hS => ?_)
  have hP : va_P E.1 vwCl [(h0, .inr (1, [.ref q_2, .ref q_3, .null, .null, .int 0])), (q_2, zI E 4 (fun _ => 0)), (q_3, zI E 4 (fun _ => 0))] H := hP
  have hD : va_D A [(h0, .inr (1, [.ref q_2, .ref q_3, .null, .null, .int 0])), (q_2, zI E 4 (fun _ => 0)), (q_3, zI E 4 (fun _ => 0))] := hD
  refine lv_aload_n hx hb d_Js_init_18 rfl (lv_at hl 0 rfl) ?_
  refine lv_iconst (v := 4) hx hb d_Js_init_19 (by decide) ?_
  refine zz_eqi (show (4 : Int32) = nI 4 from rfl) ?_
  refine zz_newI C hK hP hD hS hA (by decide) wd_ac_I (Nat.le_of_ble_eq_true rfl) (Nat.le_of_ble_eq_true rfl) d_Js_init_20 (fun q_4 H hP hD hS => ?_)
  have hP : va_P E.1 vwCl [(h0, .inr (1, [.ref q_2, .ref q_3, .null, .null, .int 0])), (q_2, zI E 4 (fun _ => 0)), (q_3, zI E 4 (fun _ => 0)), (q_4, zI E 4 (fun _ => 0))] H := hP
  have hD : va_D A [(h0, .inr (1, [.ref q_2, .ref q_3, .null, .null, .int 0])), (q_2, zI E 4 (fun _ => 0)), (q_3, zI E 4 (fun _ => 0)), (q_4, zI E 4 (fun _ => 0))] := hD
  refine zz_putF C hin hK hP hD hS fl_Js_18 (fun q h => by cases h; rfl) 0 rfl rfl rfl (Nat.le_of_ble_eq_true rfl) d_Js_init_22 (fun H locs hP hD hS => ?_)
  have hP : va_P E.1 vwCl [(h0, .inr (1, [.ref q_2, .ref q_3, .ref q_4, .null, .int 0])), (q_2, zI E 4 (fun _ => 0)), (q_3, zI E 4 (fun _ => 0)), (q_4, zI E 4 (fun _ => 0))] H := hP
  have hD : va_D A [(h0, .inr (1, [.ref q_2, .ref q_3, .ref q_4, .null, .int 0])), (q_2, zI E 4 (fun _ => 0)), (q_3, zI E 4 (fun _ => 0)), (q_4, zI E 4 (fun _ => 0))] := hD
  refine lv_aload_n hx hb d_Js_init_25 rfl (lv_at hl 0 rfl) ?_
  refine lv_iconst (v := 4) hx hb d_Js_init_26 (by decide) ?_
  refine zz_eqi (show (4 : Int32) = nI 4 from rfl) ?_
  refine zz_newI C hK hP hD hS hA (by decide) wd_ac_I (Nat.le_of_ble_eq_true rfl) (Nat.le_of_ble_eq_true rfl) d_Js_init_27 (fun q_5 H hP hD hS => ?_)
  have hP : va_P E.1 vwCl [(h0, .inr (1, [.ref q_2, .ref q_3, .ref q_4, .null, .int 0])), (q_2, zI E 4 (fun _ => 0)), (q_3, zI E 4 (fun _ => 0)), (q_4, zI E 4 (fun _ => 0)), (q_5, zI E 4 (fun _ => 0))] H := hP
  have hD : va_D A [(h0, .inr (1, [.ref q_2, .ref q_3, .ref q_4, .null, .int 0])), (q_2, zI E 4 (fun _ => 0)), (q_3, zI E 4 (fun _ => 0)), (q_4, zI E 4 (fun _ => 0)), (q_5, zI E 4 (fun _ => 0))] := hD
  refine zz_putF C hin hK hP hD hS fl_Js_21 (fun q h => by cases h; rfl) 0 rfl rfl rfl (Nat.le_of_ble_eq_true rfl) d_Js_init_29 (fun H locs hP hD hS => ?_)
  have hP : va_P E.1 vwCl [(h0, .inr (1, [.ref q_2, .ref q_3, .ref q_4, .ref q_5, .int 0])), (q_2, zI E 4 (fun _ => 0)), (q_3, zI E 4 (fun _ => 0)), (q_4, zI E 4 (fun _ => 0)), (q_5, zI E 4 (fun _ => 0))] H := hP
  have hD : va_D A [(h0, .inr (1, [.ref q_2, .ref q_3, .ref q_4, .ref q_5, .int 0])), (q_2, zI E 4 (fun _ => 0)), (q_3, zI E 4 (fun _ => 0)), (q_4, zI E 4 (fun _ => 0)), (q_5, zI E 4 (fun _ => 0))] := hD
  exact zz_retv C hS (q_2, q_3, q_4, q_5) (trivial) hP hD d_Js_init_32

set_option maxHeartbeats 4000000 in
set_option maxRecDepth 100000 in
theorem c_Js_add (l : Launch) (E : zG) (h0 b1 b2 b3 b4 jc : Nat) (fS fF fW fV : Nat → Int32) (x y : Int32) (hc : jc ≤ 4) : zMet l y_Js_add b_Js_add 3 (some .int) 0 0 0 0 E [.ref h0, .int x, .int y] [(h0, .inr (1, [.ref b1, .ref b2, .ref b3, .ref b4, .int (nI jc)])), (b1, zI E 4 fS), (b2, zI E 4 fF), (b3, zI E 4 fW), (b4, zI E 4 fV)] (zQi E (S := (Nat → Int32) × (Nat → Int32) × (Nat → Int32) × Nat) (fun r u => (¬ 4 ≤ nI jc ∧ ¬ x < 1 ∧ ¬ 9 < x ∧ ¬ y < 0 ∧ y ≤ x → r = nI jc ∧ u = (upd fS jc x, upd fF jc y, upd fW jc (-1), jc + 1)) ∧ (¬ (¬ 4 ≤ nI jc ∧ ¬ x < 1 ∧ ¬ 9 < x ∧ ¬ y < 0 ∧ y ≤ x) → r = -1 ∧ u = (fS, fF, fW, jc))) (fun u => [(h0, .inr (1, [.ref b1, .ref b2, .ref b3, .ref b4, .int (nI u.2.2.2)])), (b1, zI E 4 u.1), (b2, zI E 4 u.2.1), (b3, zI E 4 u.2.2.1), (b4, zI E 4 fV)])) := by
  refine zz_met (by decide +kernel) (Nat.le_of_ble_eq_true rfl) ?_
  intro p e s m below meth c A ls C hin hA hK hst hP hD hl
  obtain ⟨hx, hb, hr, hml, hown, hts, hlk⟩ := id C
  have hS : va_S A s.heap s.heap [] := va_S.rf
  have hl : lv_has ls 3 [(0, .ref h0), (1, .int x), (2, .int y)] := hl
  refine lv_aload_n hx hb d_Js_add_0 rfl (lv_at hl 0 rfl) ?_
  refine zz_get C hK hP fl_Js_24 0 rfl rfl d_Js_add_1 ?_
  refine lv_iconst (v := 4) hx hb d_Js_add_4 (by decide) ?_
  refine lv_icmp_ge (tgt := 28) hx hb d_Js_add_5 (by decide) (fun c_6 => ?_) (fun c_6 => ?_)
  · refine lv_iconst (v := (-1)) hx hb d_Js_add_28 (by decide) ?_
    exact zz_reti C (rfl) hS (fS, fF, fW, jc) (⟨fun h => absurd h (by simp_all), fun _ => ⟨rfl, rfl⟩⟩) hP hD d_Js_add_29
  · refine lv_iload_n hx hb d_Js_add_8 rfl (lv_at hl 1 rfl) ?_
    refine lv_iconst (v := 1) hx hb d_Js_add_9 (by decide) ?_
    refine lv_icmp_lt (tgt := 28) hx hb d_Js_add_10 (by decide) (fun c_7 => ?_) (fun c_7 => ?_)
    · refine lv_iconst (v := (-1)) hx hb d_Js_add_28 (by decide) ?_
      exact zz_reti C (rfl) hS (fS, fF, fW, jc) (⟨fun h => absurd h (by simp_all), fun _ => ⟨rfl, rfl⟩⟩) hP hD d_Js_add_29
    · refine lv_iload_n hx hb d_Js_add_13 rfl (lv_at hl 1 rfl) ?_
      refine lv_bipush (v := 9) hx hb d_Js_add_14 (by decide) ?_
      refine lv_icmp_gt (tgt := 28) hx hb d_Js_add_16 (by decide) (fun c_8 => ?_) (fun c_8 => ?_)
      · refine lv_iconst (v := (-1)) hx hb d_Js_add_28 (by decide) ?_
        exact zz_reti C (rfl) hS (fS, fF, fW, jc) (⟨fun h => absurd h (by simp_all), fun _ => ⟨rfl, rfl⟩⟩) hP hD d_Js_add_29
      · refine lv_iload_n hx hb d_Js_add_19 rfl (lv_at hl 2 rfl) ?_
        refine lv_if_lt (tgt := 28) hx hb d_Js_add_20 (by decide) (fun c_9 => ?_) (fun c_9 => ?_)
        · refine lv_iconst (v := (-1)) hx hb d_Js_add_28 (by decide) ?_
          exact zz_reti C (rfl) hS (fS, fF, fW, jc) (⟨fun h => absurd h (by simp_all), fun _ => ⟨rfl, rfl⟩⟩) hP hD d_Js_add_29
        · refine lv_iload_n hx hb d_Js_add_23 rfl (lv_at hl 2 rfl) ?_
          refine lv_iload_n hx hb d_Js_add_24 rfl (lv_at hl 1 rfl) ?_
          refine lv_icmp_le (tgt := 30) hx hb d_Js_add_25 (by decide) (fun c_10 => ?_) (fun c_10 => ?_)
          · refine lv_aload_n hx hb d_Js_add_30 rfl (lv_at hl 0 rfl) ?_
            refine zz_get C hK hP fl_Js_11 0 rfl rfl d_Js_add_31 ?_
            refine lv_aload_n hx hb d_Js_add_34 rfl (lv_at hl 0 rfl) ?_
            refine zz_get C hK hP fl_Js_24 0 rfl rfl d_Js_add_35 ?_
            refine lv_iload_n hx hb d_Js_add_38 rfl (lv_at hl 1 rfl) ?_
            have hc4 : jc < 4 := zz_ltc (n := 4) c_6 (by omega)
            refine zz_iastN C hK hP hD hS 1 rfl (j := jc) (hc4) (by omega) d_Js_add_39 (fun H locs hP hD hS => ?_)
            have hP : va_P E.1 vwCl [(h0, .inr (1, [.ref b1, .ref b2, .ref b3, .ref b4, .int (nI jc)])), (b1, zI E 4 (upd fS jc x)), (b2, zI E 4 fF), (b3, zI E 4 fW), (b4, zI E 4 fV)] H := hP
            have hD : va_D A [(h0, .inr (1, [.ref b1, .ref b2, .ref b3, .ref b4, .int (nI jc)])), (b1, zI E 4 (upd fS jc x)), (b2, zI E 4 fF), (b3, zI E 4 fW), (b4, zI E 4 fV)] := hD
            refine lv_aload_n hx hb d_Js_add_40 rfl (lv_at hl 0 rfl) ?_
            refine zz_get C hK hP fl_Js_15 0 rfl rfl d_Js_add_41 ?_
            refine lv_aload_n hx hb d_Js_add_44 rfl (lv_at hl 0 rfl) ?_
            refine zz_get C hK hP fl_Js_24 0 rfl rfl d_Js_add_45 ?_
            refine lv_iload_n hx hb d_Js_add_48 rfl (lv_at hl 2 rfl) ?_
            refine zz_iastN C hK hP hD hS 2 rfl (j := jc) (hc4) (by omega) d_Js_add_49 (fun H locs hP hD hS => ?_)
            have hP : va_P E.1 vwCl [(h0, .inr (1, [.ref b1, .ref b2, .ref b3, .ref b4, .int (nI jc)])), (b1, zI E 4 (upd fS jc x)), (b2, zI E 4 (upd fF jc y)), (b3, zI E 4 fW), (b4, zI E 4 fV)] H := hP
            have hD : va_D A [(h0, .inr (1, [.ref b1, .ref b2, .ref b3, .ref b4, .int (nI jc)])), (b1, zI E 4 (upd fS jc x)), (b2, zI E 4 (upd fF jc y)), (b3, zI E 4 fW), (b4, zI E 4 fV)] := hD
            refine lv_aload_n hx hb d_Js_add_50 rfl (lv_at hl 0 rfl) ?_
            refine zz_get C hK hP fl_Js_18 0 rfl rfl d_Js_add_51 ?_
            refine lv_aload_n hx hb d_Js_add_54 rfl (lv_at hl 0 rfl) ?_
            refine zz_get C hK hP fl_Js_24 0 rfl rfl d_Js_add_55 ?_
            refine lv_iconst (v := (-1)) hx hb d_Js_add_58 (by decide) ?_
            refine zz_iastN C hK hP hD hS 3 rfl (j := jc) (hc4) (by omega) d_Js_add_59 (fun H locs hP hD hS => ?_)
            have hP : va_P E.1 vwCl [(h0, .inr (1, [.ref b1, .ref b2, .ref b3, .ref b4, .int (nI jc)])), (b1, zI E 4 (upd fS jc x)), (b2, zI E 4 (upd fF jc y)), (b3, zI E 4 (upd fW jc (-1))), (b4, zI E 4 fV)] H := hP
            have hD : va_D A [(h0, .inr (1, [.ref b1, .ref b2, .ref b3, .ref b4, .int (nI jc)])), (b1, zI E 4 (upd fS jc x)), (b2, zI E 4 (upd fF jc y)), (b3, zI E 4 (upd fW jc (-1))), (b4, zI E 4 fV)] := hD
            refine lv_aload_n hx hb d_Js_add_60 rfl (lv_at hl 0 rfl) ?_
            refine lv_dup hx hb d_Js_add_61 rfl ?_
            refine zz_get C hK hP fl_Js_24 0 rfl rfl d_Js_add_62 ?_
            refine lv_iconst (v := 1) hx hb d_Js_add_65 (by decide) ?_
            refine lv_iadd hx hb d_Js_add_66 ?_
            refine zz_eqi (y := nI (jc + 1)) (nI_1 _) ?_
            refine zz_put C hK hP hD hS fl_Js_24 0 rfl rfl rfl (Nat.le_of_ble_eq_true rfl) d_Js_add_67 (fun H locs hP hD hS => ?_)
            have hP : va_P E.1 vwCl [(h0, .inr (1, [.ref b1, .ref b2, .ref b3, .ref b4, .int (nI (jc + 1))])), (b1, zI E 4 (upd fS jc x)), (b2, zI E 4 (upd fF jc y)), (b3, zI E 4 (upd fW jc (-1))), (b4, zI E 4 fV)] H := hP
            have hD : va_D A [(h0, .inr (1, [.ref b1, .ref b2, .ref b3, .ref b4, .int (nI (jc + 1))])), (b1, zI E 4 (upd fS jc x)), (b2, zI E 4 (upd fF jc y)), (b3, zI E 4 (upd fW jc (-1))), (b4, zI E 4 fV)] := hD
            refine lv_aload_n hx hb d_Js_add_70 rfl (lv_at hl 0 rfl) ?_
            refine zz_get C hK hP fl_Js_24 0 rfl rfl d_Js_add_71 ?_
            refine lv_iconst (v := 1) hx hb d_Js_add_74 (by decide) ?_
            refine lv_isub hx hb d_Js_add_75 ?_
            refine zz_eqi (y := nI jc) (nI_pred jc) ?_
            exact zz_reti C (rfl) hS (upd fS jc x, upd fF jc y, upd fW jc (-1), jc + 1) (⟨fun _ => ⟨rfl, rfl⟩, fun h => absurd h (by simp_all)⟩) hP hD d_Js_add_76
          · refine lv_iconst (v := (-1)) hx hb d_Js_add_28 (by decide) ?_
            exact zz_reti C (rfl) hS (fS, fF, fW, jc) (⟨fun h => absurd h (by simp_all), fun _ => ⟨rfl, rfl⟩⟩) hP hD d_Js_add_29

set_option maxHeartbeats 4000000 in
set_option maxRecDepth 100000 in
theorem c_Js_want (l : Launch) (E : zG) (h0 b1 b2 b3 b4 jc : Nat) (fS fF fW fV : Nat → Int32) (k v : Int32) (hc : jc ≤ 4) : zMet l y_Js_want b_Js_want 3 (some .boolean) 0 0 0 0 E [.ref h0, .int k, .int v] [(h0, .inr (1, [.ref b1, .ref b2, .ref b3, .ref b4, .int (nI jc)])), (b1, zI E 4 fS), (b2, zI E 4 fF), (b3, zI E 4 fW), (b4, zI E 4 fV)] (zQi E (S := Nat → Int32) (fun r u => (¬ k < 0 ∧ ¬ nI jc ≤ k ∧ ¬ v < (-1) ∧ v ≤ fS k.toNatClampNeg → r = 1 ∧ u = upd fW k.toNatClampNeg v) ∧ (¬ (¬ k < 0 ∧ ¬ nI jc ≤ k ∧ ¬ v < (-1) ∧ v ≤ fS k.toNatClampNeg) → r = 0 ∧ u = fW)) (fun u => [(h0, .inr (1, [.ref b1, .ref b2, .ref b3, .ref b4, .int (nI jc)])), (b1, zI E 4 fS), (b2, zI E 4 fF), (b3, zI E 4 u), (b4, zI E 4 fV)])) := by
  refine zz_met (by decide +kernel) (Nat.le_of_ble_eq_true rfl) ?_
  intro p e s m below meth c A ls C hin hA hK hst hP hD hl
  obtain ⟨hx, hb, hr, hml, hown, hts, hlk⟩ := id C
  have hS : va_S A s.heap s.heap [] := va_S.rf
  have hl : lv_has ls 3 [(0, .ref h0), (1, .int k), (2, .int v)] := hl
  refine lv_iload_n hx hb d_Js_want_0 rfl (lv_at hl 1 rfl) ?_
  refine lv_if_lt (tgt := 27) hx hb d_Js_want_1 (by decide) (fun c_11 => ?_) (fun c_11 => ?_)
  · refine lv_iconst (v := 0) hx hb d_Js_want_27 (by decide) ?_
    exact zz_reti C (rfl) hS fW (⟨fun h => absurd h (by simp_all), fun _ => ⟨rfl, rfl⟩⟩) hP hD d_Js_want_28
  · refine lv_iload_n hx hb d_Js_want_4 rfl (lv_at hl 1 rfl) ?_
    refine lv_aload_n hx hb d_Js_want_5 rfl (lv_at hl 0 rfl) ?_
    refine zz_get C hK hP fl_Js_24 0 rfl rfl d_Js_want_6 ?_
    refine lv_icmp_ge (tgt := 27) hx hb d_Js_want_9 (by decide) (fun c_12 => ?_) (fun c_12 => ?_)
    · refine lv_iconst (v := 0) hx hb d_Js_want_27 (by decide) ?_
      exact zz_reti C (rfl) hS fW (⟨fun h => absurd h (by simp_all), fun _ => ⟨rfl, rfl⟩⟩) hP hD d_Js_want_28
    · refine lv_iload_n hx hb d_Js_want_12 rfl (lv_at hl 2 rfl) ?_
      refine lv_iconst (v := (-1)) hx hb d_Js_want_13 (by decide) ?_
      refine lv_icmp_lt (tgt := 27) hx hb d_Js_want_14 (by decide) (fun c_13 => ?_) (fun c_13 => ?_)
      · refine lv_iconst (v := 0) hx hb d_Js_want_27 (by decide) ?_
        exact zz_reti C (rfl) hS fW (⟨fun h => absurd h (by simp_all), fun _ => ⟨rfl, rfl⟩⟩) hP hD d_Js_want_28
      · refine lv_iload_n hx hb d_Js_want_17 rfl (lv_at hl 2 rfl) ?_
        refine lv_aload_n hx hb d_Js_want_18 rfl (lv_at hl 0 rfl) ?_
        refine zz_get C hK hP fl_Js_11 0 rfl rfl d_Js_want_19 ?_
        refine lv_iload_n hx hb d_Js_want_22 rfl (lv_at hl 1 rfl) ?_
        refine zz_iald C hK hP 1 rfl (zz_vp4 hc c_11 c_12) d_Js_want_23 ?_
        refine lv_icmp_le (tgt := 29) hx hb d_Js_want_24 (by decide) (fun c_14 => ?_) (fun c_14 => ?_)
        · refine lv_aload_n hx hb d_Js_want_29 rfl (lv_at hl 0 rfl) ?_
          refine zz_get C hK hP fl_Js_18 0 rfl rfl d_Js_want_30 ?_
          refine lv_iload_n hx hb d_Js_want_33 rfl (lv_at hl 1 rfl) ?_
          refine lv_iload_n hx hb d_Js_want_34 rfl (lv_at hl 2 rfl) ?_
          refine zz_iast C hK hP hD hS 3 rfl (zz_vp4 hc c_11 c_12) d_Js_want_35 (fun H locs hP hD hS => ?_)
          have hP : va_P E.1 vwCl [(h0, .inr (1, [.ref b1, .ref b2, .ref b3, .ref b4, .int (nI jc)])), (b1, zI E 4 fS), (b2, zI E 4 fF), (b3, zI E 4 (upd fW k.toNatClampNeg v)), (b4, zI E 4 fV)] H := hP
          have hD : va_D A [(h0, .inr (1, [.ref b1, .ref b2, .ref b3, .ref b4, .int (nI jc)])), (b1, zI E 4 fS), (b2, zI E 4 fF), (b3, zI E 4 (upd fW k.toNatClampNeg v)), (b4, zI E 4 fV)] := hD
          refine lv_iconst (v := 1) hx hb d_Js_want_36 (by decide) ?_
          exact zz_reti C (rfl) hS (upd fW k.toNatClampNeg v) (⟨fun _ => ⟨rfl, rfl⟩, fun h => absurd h (by simp_all)⟩) hP hD d_Js_want_37
        · refine lv_iconst (v := 0) hx hb d_Js_want_27 (by decide) ?_
          exact zz_reti C (rfl) hS fW (⟨fun h => absurd h (by simp_all), fun _ => ⟨rfl, rfl⟩⟩) hP hD d_Js_want_28

set_option maxHeartbeats 4000000 in
set_option maxRecDepth 100000 in
theorem lp_Js_stateCount {p : Program} {l : Launch} {e : Env} {s : State} {m : MethodId} {below : List Frame} {meth : Method} {c : Code} {A : Nat → Prop}  {E : zG} {h0 b1 b2 b3 b4 jc : Nat} {fS fF fW fV : Nat → Int32} (hc : jc ≤ 4) (C : cx p s m #[.ref h0] meth c b_Js_stateCount 3 y_Js_stateCount.cls (some .int)) (hA : ∀ q, s.heap.size ≤ q → A q) (hK : kt E s) (hst : stt A s s.heap) :
    ∀ (f i : Nat) (_ : i + f = jc) (H : Heap) (locs : List Loc) (ls : Array Slot), va_P E.1 vwCl [(h0, .inr (1, [.ref b1, .ref b2, .ref b3, .ref b4, .int (nI jc)])), (b1, zI E 4 fS), (b2, zI E 4 fF), (b3, zI E 4 fW), (b4, zI E 4 fV)] H → va_D A [(h0, .inr (1, [.ref b1, .ref b2, .ref b3, .ref b4, .int (nI jc)])), (b1, zI E 4 fS), (b2, zI E 4 fF), (b3, zI E 4 fW), (b4, zI E 4 fV)] → va_S A s.heap H locs → lv_has ls 3 [(0, .ref h0), (1, .int (nI (10 ^ i))), (2, .int (nI i))] → W p l e (zR 0 0 0 0) s m #[.ref h0] below meth c H locs 0 0 (MQ below ((zQi E (S := Unit) (fun r _ => r = nI (10 ^ jc)) (fun _ => [(h0, .inr (1, [.ref b1, .ref b2, .ref b3, .ref b4, .int (nI jc)])), (b1, zI E 4 fS), (b2, zI E 4 fF), (b3, zI E 4 fW), (b4, zI E 4 fV)])) A) #[.ref h0] s 0 0 A) (F0 m 4 ls []) := by
  obtain ⟨hx, hb, hr, hml, hown, hts, hlk⟩ := id C
  intro f
  induction f with
  | zero =>
    intro i hi H locs ls hP hD hS hl
    have hi : i = jc := by omega
    subst hi
    refine lv_iload_n hx hb d_Js_stateCount_4 rfl (lv_at hl 2 rfl) ?_
    refine lv_aload_n hx hb d_Js_stateCount_5 rfl (lv_at hl 0 rfl) ?_
    refine zz_get C hK hP fl_Js_24 0 rfl rfl d_Js_stateCount_6 ?_
    refine lv_icmp_ge (tgt := 23) hx hb d_Js_stateCount_9 (by decide) (fun c_15 => ?_) (fun c_15 => ?_)
    · refine lv_iload_n hx hb d_Js_stateCount_23 rfl (lv_at hl 1 rfl) ?_
      exact zz_reti C (rfl) hS () (rfl) hP hD d_Js_stateCount_24
    · exact absurd (nI_le (Nat.le_refl _) (by omega)) c_15
  | succ f ih =>
    intro i hi H locs ls hP hD hS hl
    have hic : i < jc := by omega
    refine lv_iload_n hx hb d_Js_stateCount_4 rfl (lv_at hl 2 rfl) ?_
    refine lv_aload_n hx hb d_Js_stateCount_5 rfl (lv_at hl 0 rfl) ?_
    refine zz_get C hK hP fl_Js_24 0 rfl rfl d_Js_stateCount_6 ?_
    refine lv_icmp_ge (tgt := 23) hx hb d_Js_stateCount_9 (by decide) (fun c_16 => ?_) (fun c_16 => ?_)
    · exact absurd c_16 (nI_ge hic (by omega))
    · refine lv_iload_n hx hb d_Js_stateCount_12 rfl (lv_at hl 1 rfl) ?_
      refine lv_bipush (v := 10) hx hb d_Js_stateCount_13 (by decide) ?_
      refine lv_imul hx hb d_Js_stateCount_15 ?_
      refine zz_eqi (y := nI (10 ^ (i + 1))) ((pk_mul (10 ^ i) 10).trans (by rw [← Nat.pow_succ])) ?_
      refine lv_istore_n (lv' := [(1, .int (nI (10 ^ (i + 1)))), (0, .ref h0), (2, .int (nI i))]) hx hb d_Js_stateCount_16 rfl hl (by decide) rfl (fun ls hl => ?_)
      refine lv_iinc (v := nI (i + 1)) (lv' := [(2, .int (nI (i + 1))), (1, .int (nI (10 ^ (i + 1)))), (0, .ref h0)]) hx hb d_Js_stateCount_17 hl (k := 2) rfl (nI_1 _) (by decide) rfl (fun ls hl => ?_)
      refine lv_goto (tgt := 4) hx hb d_Js_stateCount_20 (by decide) ?_
      exact ih (i + 1) (by omega) _ _ ls hP hD hS (lv_sub hl [2, 1, 0] rfl)

set_option maxHeartbeats 4000000 in
set_option maxRecDepth 100000 in
theorem c_Js_stateCount (l : Launch) (E : zG) (h0 b1 b2 b3 b4 jc : Nat) (fS fF fW fV : Nat → Int32) (hc : jc ≤ 4) : zMet l y_Js_stateCount b_Js_stateCount 3 (some .int) 0 0 0 0 E [.ref h0] [(h0, .inr (1, [.ref b1, .ref b2, .ref b3, .ref b4, .int (nI jc)])), (b1, zI E 4 fS), (b2, zI E 4 fF), (b3, zI E 4 fW), (b4, zI E 4 fV)] (zQi E (S := Unit) (fun r _ => r = nI (10 ^ jc)) (fun _ => [(h0, .inr (1, [.ref b1, .ref b2, .ref b3, .ref b4, .int (nI jc)])), (b1, zI E 4 fS), (b2, zI E 4 fF), (b3, zI E 4 fW), (b4, zI E 4 fV)])) := by
  refine zz_met (by decide +kernel) (Nat.le_of_ble_eq_true rfl) ?_
  intro p e s m below meth c A ls C hin hA hK hst hP hD hl
  obtain ⟨hx, hb, hr, hml, hown, hts, hlk⟩ := id C
  have hS : va_S A s.heap s.heap [] := va_S.rf
  have hl : lv_has ls 3 [(0, .ref h0)] := hl
  refine lv_iconst (v := 1) hx hb d_Js_stateCount_0 (by decide) ?_
  refine lv_istore_n (lv' := [(1, .int 1), (0, .ref h0)]) hx hb d_Js_stateCount_1 rfl hl (by decide) rfl (fun ls hl => ?_)
  refine lv_iconst (v := 0) hx hb d_Js_stateCount_2 (by decide) ?_
  refine lv_istore_n (lv' := [(2, .int 0), (1, .int 1), (0, .ref h0)]) hx hb d_Js_stateCount_3 rfl hl (by decide) rfl (fun ls hl => ?_)
  have hl := lv_sub (l' := [(0, .ref h0), (1, .int (nI (10 ^ 0))), (2, .int (nI 0))]) hl [2, 1, 0] (rfl)
  exact lp_Js_stateCount hc C hA hK hst jc 0 (by omega) _ _ ls hP hD hS hl

set_option maxHeartbeats 4000000 in
set_option maxRecDepth 100000 in
theorem lp_Js_startState {p : Program} {l : Launch} {e : Env} {s : State} {m : MethodId} {below : List Frame} {meth : Method} {c : Code} {A : Nat → Prop}  {E : zG} {h0 b1 b2 b3 b4 jc : Nat} {fS fF fW fV : Nat → Int32} {sz fl : Nat → Nat} (hJ : jg_ok jc sz fl fS fF) {tD : Nat} (hZD : va_Z "StatePuzzles$JugSet" "DIGIT" "[I" (.ref tD) A s s.heap) (hTD : va_T .int tD 4 (fun j => .int (nI (10 ^ j))) A s s.heap) (C : cx p s m #[.ref h0] meth c b_Js_startState 3 y_Js_startState.cls (some .int)) (hA : ∀ q, s.heap.size ≤ q → A q) (hK : kt E s) (hst : stt A s s.heap) :
    ∀ (f i : Nat) (_ : i + f = jc) (H : Heap) (locs : List Loc) (ls : Array Slot), va_P E.1 vwCl [(h0, .inr (1, [.ref b1, .ref b2, .ref b3, .ref b4, .int (nI jc)])), (b1, zI E 4 fS), (b2, zI E 4 fF), (b3, zI E 4 fW), (b4, zI E 4 fV)] H → va_D A [(h0, .inr (1, [.ref b1, .ref b2, .ref b3, .ref b4, .int (nI jc)])), (b1, zI E 4 fS), (b2, zI E 4 fF), (b3, zI E 4 fW), (b4, zI E 4 fV)] → va_S A s.heap H locs → lv_has ls 3 [(0, .ref h0), (1, .int (nI (jg_sum fl i))), (2, .int (nI i))] → W p l e (zR 0 0 0 0) s m #[.ref h0] below meth c H locs 0 0 (MQ below ((zQi E (S := Unit) (fun r _ => r = nI (jg_sum fl jc)) (fun _ => [(h0, .inr (1, [.ref b1, .ref b2, .ref b3, .ref b4, .int (nI jc)])), (b1, zI E 4 fS), (b2, zI E 4 fF), (b3, zI E 4 fW), (b4, zI E 4 fV)])) A) #[.ref h0] s 0 0 A) (F0 m 4 ls []) := by
  obtain ⟨hx, hb, hr, hml, hown, hts, hlk⟩ := id C
  have hc := hJ.1
  intro f
  induction f with
  | zero =>
    intro i hi H locs ls hP hD hS hl
    have hi : i = jc := by omega
    subst hi
    refine lv_iload_n hx hb d_Js_startState_4 rfl (lv_at hl 2 rfl) ?_
    refine lv_aload_n hx hb d_Js_startState_5 rfl (lv_at hl 0 rfl) ?_
    refine zz_get C hK hP fl_Js_24 0 rfl rfl d_Js_startState_6 ?_
    refine lv_icmp_ge (tgt := 33) hx hb d_Js_startState_9 (by decide) (fun c_17 => ?_) (fun c_17 => ?_)
    · refine lv_iload_n hx hb d_Js_startState_33 rfl (lv_at hl 1 rfl) ?_
      exact zz_reti C (rfl) hS () (rfl) hP hD d_Js_startState_34
    · exact absurd (nI_le (Nat.le_refl _) (by omega)) c_17
  | succ f ih =>
    intro i hi H locs ls hP hD hS hl
    have hic : i < jc := by omega
    have hj := hJ.2 i hic
    refine lv_iload_n hx hb d_Js_startState_4 rfl (lv_at hl 2 rfl) ?_
    refine lv_aload_n hx hb d_Js_startState_5 rfl (lv_at hl 0 rfl) ?_
    refine zz_get C hK hP fl_Js_24 0 rfl rfl d_Js_startState_6 ?_
    refine lv_icmp_ge (tgt := 33) hx hb d_Js_startState_9 (by decide) (fun c_18 => ?_) (fun c_18 => ?_)
    · exact absurd c_18 (nI_ge hic (by omega))
    · refine lv_iload_n hx hb d_Js_startState_12 rfl (lv_at hl 1 rfl) ?_
      refine lv_aload_n hx hb d_Js_startState_13 rfl (lv_at hl 0 rfl) ?_
      refine zz_get C hK hP fl_Js_15 0 rfl rfl d_Js_startState_14 ?_
      refine lv_iload_n hx hb d_Js_startState_17 rfl (lv_at hl 2 rfl) ?_
      refine zz_ialdN C hK hP 2 rfl (j := i) (by omega) (by omega) d_Js_startState_18 ?_
      refine va_gets hx hb hZD hS hown (hts _ wd_fs_Js_28) (fun _ h9 => h9) d_Js_startState_19 ?_
      refine lv_iload_n hx hb d_Js_startState_22 rfl (lv_at hl 2 rfl) ?_
      refine zz_tabI C hTD hS (j := i) (by omega) (by decide) d_Js_startState_23 ?_
      refine lv_imul hx hb d_Js_startState_24 ?_
      refine zz_eqi (y := nI (fl i * 10 ^ i)) (by rw [hj.2.2.2.1]; exact pk_mul _ _) ?_
      refine lv_iadd hx hb d_Js_startState_25 ?_
      refine zz_eqi (y := nI (jg_sum fl (i + 1))) (nI_add _ _) ?_
      refine lv_istore_n (lv' := [(1, .int (nI (jg_sum fl (i + 1)))), (0, .ref h0), (2, .int (nI i))]) hx hb d_Js_startState_26 rfl hl (by decide) rfl (fun ls hl => ?_)
      refine lv_iinc (v := nI (i + 1)) (lv' := [(2, .int (nI (i + 1))), (1, .int (nI (jg_sum fl (i + 1)))), (0, .ref h0)]) hx hb d_Js_startState_27 hl (k := 2) rfl (nI_1 _) (by decide) rfl (fun ls hl => ?_)
      refine lv_goto (tgt := 4) hx hb d_Js_startState_30 (by decide) ?_
      exact ih (i + 1) (by omega) _ _ ls hP hD hS (lv_sub hl [2, 1, 0] rfl)

set_option maxHeartbeats 4000000 in
set_option maxRecDepth 100000 in
theorem c_Js_startState (l : Launch) (E : zG) (h0 b1 b2 b3 b4 jc : Nat) (fS fF fW fV : Nat → Int32) (sz fl : Nat → Nat) (hJ : jg_ok jc sz fl fS fF) : zMet l y_Js_startState b_Js_startState 3 (some .int) 0 0 0 0 E [.ref h0] [(h0, .inr (1, [.ref b1, .ref b2, .ref b3, .ref b4, .int (nI jc)])), (b1, zI E 4 fS), (b2, zI E 4 fF), (b3, zI E 4 fW), (b4, zI E 4 fV)] (zQi E (S := Unit) (fun r _ => r = nI (jg_sum fl jc)) (fun _ => [(h0, .inr (1, [.ref b1, .ref b2, .ref b3, .ref b4, .int (nI jc)])), (b1, zI E 4 fS), (b2, zI E 4 fF), (b3, zI E 4 fW), (b4, zI E 4 fV)])) := by
  refine zz_met (by decide +kernel) (Nat.le_of_ble_eq_true rfl) ?_
  intro p e s m below meth c A ls C hin hA hK hst hP hD hl
  obtain ⟨hx, hb, hr, hml, hown, hts, hlk⟩ := id C
  have hS : va_S A s.heap s.heap [] := va_S.rf
  have hl : lv_has ls 3 [(0, .ref h0)] := hl
  obtain ⟨tD, hZD, hTD⟩ := id hst
  refine lv_iconst (v := 0) hx hb d_Js_startState_0 (by decide) ?_
  refine lv_istore_n (lv' := [(1, .int 0), (0, .ref h0)]) hx hb d_Js_startState_1 rfl hl (by decide) rfl (fun ls hl => ?_)
  refine lv_iconst (v := 0) hx hb d_Js_startState_2 (by decide) ?_
  refine lv_istore_n (lv' := [(2, .int 0), (1, .int 0), (0, .ref h0)]) hx hb d_Js_startState_3 rfl hl (by decide) rfl (fun ls hl => ?_)
  have hl := lv_sub (l' := [(0, .ref h0), (1, .int (nI (jg_sum fl 0))), (2, .int (nI 0))]) hl [2, 1, 0] rfl
  exact lp_Js_startState hJ hZD hTD C hA hK hst jc 0 (by omega) _ _ ls hP hD hS hl

set_option maxHeartbeats 4000000 in
set_option maxRecDepth 100000 in
theorem lp_Js_readLevels {p : Program} {l : Launch} {e : Env} {s : State} {m : MethodId} {below : List Frame} {meth : Method} {c : Code} {A : Nat → Prop}  {E : zG} {h0 b1 b2 b3 b4 jc : Nat} {fS fF fW : Nat → Int32} {x : Nat} (hc : jc ≤ 4) (hx0 : x < 10000) (C : cx p s m #[.ref h0, .int (nI x)] meth c b_Js_readLevels 4 y_Js_readLevels.cls none) (hA : ∀ q, s.heap.size ≤ q → A q) (hK : kt E s) (hst : stt A s s.heap) :
    ∀ (f i : Nat) (g : Nat → Int32) (_ : i + f = jc) (_ : ∀ j, j < i → g j = nI (jg_d x j)) (H : Heap) (locs : List Loc) (ls : Array Slot), va_P E.1 vwCl [(h0, .inr (1, [.ref b1, .ref b2, .ref b3, .ref b4, .int (nI jc)])), (b1, zI E 4 fS), (b2, zI E 4 fF), (b3, zI E 4 fW), (b4, zI E 4 g)] H → va_D A [(h0, .inr (1, [.ref b1, .ref b2, .ref b3, .ref b4, .int (nI jc)])), (b1, zI E 4 fS), (b2, zI E 4 fF), (b3, zI E 4 fW), (b4, zI E 4 g)] → va_S A s.heap H locs → lv_has ls 4 [(0, .ref h0), (1, .int (nI x)), (2, .int (nI (x / 10 ^ i))), (3, .int (nI i))] → W p l e (zR 0 0 0 0) s m #[.ref h0, .int (nI x)] below meth c H locs 0 0 (MQ below ((zQv E (S := Nat → Int32) (fun u => ∀ j, j < jc → u j = nI (jg_d x j)) (fun u => [(h0, .inr (1, [.ref b1, .ref b2, .ref b3, .ref b4, .int (nI jc)])), (b1, zI E 4 fS), (b2, zI E 4 fF), (b3, zI E 4 fW), (b4, zI E 4 u)])) A) #[.ref h0, .int (nI x)] s 0 0 A) (F0 m 4 ls []) := by
  obtain ⟨hx, hb, hr, hml, hown, hts, hlk⟩ := id C
  intro f
  induction f with
  | zero =>
    intro i g hi hg H locs ls hP hD hS hl
    have hi : i = jc := by omega
    subst hi
    refine lv_iload_n hx hb d_Js_readLevels_4 rfl (lv_at hl 3 rfl) ?_
    refine lv_aload_n hx hb d_Js_readLevels_5 rfl (lv_at hl 0 rfl) ?_
    refine zz_get C hK hP fl_Js_24 0 rfl rfl d_Js_readLevels_6 ?_
    refine lv_icmp_ge (tgt := 33) hx hb d_Js_readLevels_9 (by decide) (fun c_19 => ?_) (fun c_19 => ?_)
    · exact zz_retv C hS g (hg) hP hD d_Js_readLevels_33
    · exact absurd (nI_le (Nat.le_refl _) (by omega)) c_19
  | succ f ih =>
    intro i g hi hg H locs ls hP hD hS hl
    have hic : i < jc := by omega
    have hy : x / 10 ^ i < 10000 := Nat.lt_of_le_of_lt (Nat.div_le_self _ _) hx0
    refine lv_iload_n hx hb d_Js_readLevels_4 rfl (lv_at hl 3 rfl) ?_
    refine lv_aload_n hx hb d_Js_readLevels_5 rfl (lv_at hl 0 rfl) ?_
    refine zz_get C hK hP fl_Js_24 0 rfl rfl d_Js_readLevels_6 ?_
    refine lv_icmp_ge (tgt := 33) hx hb d_Js_readLevels_9 (by decide) (fun c_20 => ?_) (fun c_20 => ?_)
    · exact absurd c_20 (nI_ge hic (by omega))
    · refine lv_aload_n hx hb d_Js_readLevels_12 rfl (lv_at hl 0 rfl) ?_
      refine zz_get C hK hP fl_Js_21 0 rfl rfl d_Js_readLevels_13 ?_
      refine lv_iload_n hx hb d_Js_readLevels_16 rfl (lv_at hl 3 rfl) ?_
      refine lv_iload_n hx hb d_Js_readLevels_17 rfl (lv_at hl 2 rfl) ?_
      refine lv_bipush (v := 10) hx hb d_Js_readLevels_18 (by decide) ?_
      refine lv_irem hx hb d_Js_readLevels_20 (by decide) ?_
      refine zz_eqi (y := nI (jg_d x i)) (pk_rem (by omega) (by decide) (by decide)) ?_
      refine zz_iastN C hK hP hD hS 4 rfl (j := i) (by omega) (by omega) d_Js_readLevels_21 (fun H locs hP hD hS => ?_)
      have hP : va_P E.1 vwCl [(h0, .inr (1, [.ref b1, .ref b2, .ref b3, .ref b4, .int (nI jc)])), (b1, zI E 4 fS), (b2, zI E 4 fF), (b3, zI E 4 fW), (b4, zI E 4 (upd g i (nI (jg_d x i))))] H := hP
      have hD : va_D A [(h0, .inr (1, [.ref b1, .ref b2, .ref b3, .ref b4, .int (nI jc)])), (b1, zI E 4 fS), (b2, zI E 4 fF), (b3, zI E 4 fW), (b4, zI E 4 (upd g i (nI (jg_d x i))))] := hD
      refine lv_iload_n hx hb d_Js_readLevels_22 rfl (lv_at hl 2 rfl) ?_
      refine lv_bipush (v := 10) hx hb d_Js_readLevels_23 (by decide) ?_
      refine lv_idiv hx hb d_Js_readLevels_25 (by decide) ?_
      refine zz_eqi (y := nI (x / 10 ^ (i + 1))) ((pk_div (d := 10) (by omega) (by decide) (by decide)).trans (by rw [Nat.div_div_eq_div_mul, ← Nat.pow_succ])) ?_
      refine lv_istore_n (lv' := [(2, .int (nI (x / 10 ^ (i + 1)))), (0, .ref h0), (1, .int (nI x)), (3, .int (nI i))]) hx hb d_Js_readLevels_26 rfl hl (by decide) rfl (fun ls hl => ?_)
      refine lv_iinc (v := nI (i + 1)) (lv' := [(3, .int (nI (i + 1))), (2, .int (nI (x / 10 ^ (i + 1)))), (0, .ref h0), (1, .int (nI x))]) hx hb d_Js_readLevels_27 hl (k := 3) rfl (nI_1 _) (by decide) rfl (fun ls hl => ?_)
      refine lv_goto (tgt := 4) hx hb d_Js_readLevels_30 (by decide) ?_
      exact ih (i + 1) (upd g i (nI (jg_d x i))) (by omega) (fun j hj => by
                  by_cases e : j = i
                  · subst e; exact pk_us
                  · rw [pk_un e]; exact hg j (by omega)) _ _ ls hP hD hS (lv_sub hl [2, 3, 1, 0] rfl)

set_option maxHeartbeats 4000000 in
set_option maxRecDepth 100000 in
theorem c_Js_readLevels (l : Launch) (E : zG) (h0 b1 b2 b3 b4 jc : Nat) (fS fF fW fV : Nat → Int32) (x : Nat) (hc : jc ≤ 4) (hx0 : x < 10000) : zMet l y_Js_readLevels b_Js_readLevels 4 none 0 0 0 0 E [.ref h0, .int (nI x)] [(h0, .inr (1, [.ref b1, .ref b2, .ref b3, .ref b4, .int (nI jc)])), (b1, zI E 4 fS), (b2, zI E 4 fF), (b3, zI E 4 fW), (b4, zI E 4 fV)] (zQv E (S := Nat → Int32) (fun u => ∀ j, j < jc → u j = nI (jg_d x j)) (fun u => [(h0, .inr (1, [.ref b1, .ref b2, .ref b3, .ref b4, .int (nI jc)])), (b1, zI E 4 fS), (b2, zI E 4 fF), (b3, zI E 4 fW), (b4, zI E 4 u)])) := by
  refine zz_met (by decide +kernel) (Nat.le_of_ble_eq_true rfl) ?_
  intro p e s m below meth c A ls C hin hA hK hst hP hD hl
  obtain ⟨hx, hb, hr, hml, hown, hts, hlk⟩ := id C
  have hS : va_S A s.heap s.heap [] := va_S.rf
  have hl : lv_has ls 4 [(0, .ref h0), (1, .int (nI x))] := hl
  refine lv_iload_n hx hb d_Js_readLevels_0 rfl (lv_at hl 1 rfl) ?_
  refine lv_istore_n (lv' := [(2, .int (nI x)), (0, .ref h0), (1, .int (nI x))]) hx hb d_Js_readLevels_1 rfl hl (by decide) rfl (fun ls hl => ?_)
  refine lv_iconst (v := 0) hx hb d_Js_readLevels_2 (by decide) ?_
  refine lv_istore_n (lv' := [(3, .int 0), (2, .int (nI x)), (0, .ref h0), (1, .int (nI x))]) hx hb d_Js_readLevels_3 rfl hl (by decide) rfl (fun ls hl => ?_)
  have hl := lv_sub (l' := [(0, .ref h0), (1, .int (nI x)), (2, .int (nI (x / 10 ^ 0))), (3, .int (nI 0))]) hl [2, 3, 1, 0] (by rw [Nat.pow_zero, Nat.div_one]; rfl)
  exact lp_Js_readLevels hc hx0 C hA hK hst jc 0 fV (by omega) (fun j hj => absurd hj (Nat.not_lt_zero j)) _ _ ls hP hD hS hl

set_option maxHeartbeats 4000000 in
set_option maxRecDepth 100000 in
theorem lp_Js_isDone {p : Program} {l : Launch} {e : Env} {s : State} {m : MethodId} {below : List Frame} {meth : Method} {c : Code} {A : Nat → Prop}  {E : zG} {h0 b1 b2 b3 b4 jc : Nat} {fS fF fW : Nat → Int32} {x : Nat} (hc : jc ≤ 4) (hx0 : x < 10000) {g : Nat → Int32} (hg : ∀ j, j < jc → g j = nI (jg_d x j)) (C : cx p s m #[.ref h0, .int (nI x)] meth c b_Js_isDone 3 y_Js_isDone.cls (some .boolean)) (hA : ∀ q, s.heap.size ≤ q → A q) (hK : kt E s) (hst : stt A s s.heap) :
    ∀ (f i : Nat) (_ : i + f = jc) (_ : ∀ j, j < i → fW j = -1 ∨ fW j = nI (jg_d x j)) (H : Heap) (locs : List Loc) (ls : Array Slot), va_P E.1 vwCl [(h0, .inr (1, [.ref b1, .ref b2, .ref b3, .ref b4, .int (nI jc)])), (b1, zI E 4 fS), (b2, zI E 4 fF), (b3, zI E 4 fW), (b4, zI E 4 g)] H → va_D A [(h0, .inr (1, [.ref b1, .ref b2, .ref b3, .ref b4, .int (nI jc)])), (b1, zI E 4 fS), (b2, zI E 4 fF), (b3, zI E 4 fW), (b4, zI E 4 g)] → va_S A s.heap H locs → lv_has ls 3 [(0, .ref h0), (1, .int (nI x)), (2, .int (nI i))] → W p l e (zR 1 23 0 0) s m #[.ref h0, .int (nI x)] below meth c H locs 0 0 (MQ below ((zQi E (S := Nat → Int32) (fun r u => (∀ j, j < jc → u j = nI (jg_d x j)) ∧ ((∀ i, i < jc → fW i = -1 ∨ fW i = nI (jg_d x i)) → r = 1) ∧ (¬ (∀ i, i < jc → fW i = -1 ∨ fW i = nI (jg_d x i)) → r = 0)) (fun u => [(h0, .inr (1, [.ref b1, .ref b2, .ref b3, .ref b4, .int (nI jc)])), (b1, zI E 4 fS), (b2, zI E 4 fF), (b3, zI E 4 fW), (b4, zI E 4 u)])) A) #[.ref h0, .int (nI x)] s 0 0 A) (F0 m 7 ls []) := by
  obtain ⟨hx, hb, hr, hml, hown, hts, hlk⟩ := id C
  intro f
  induction f with
  | zero =>
    intro i hi hd H locs ls hP hD hS hl
    have hi : i = jc := by omega
    subst hi
    refine lv_iload_n hx hb d_Js_isDone_7 rfl (lv_at hl 2 rfl) ?_
    refine lv_aload_n hx hb d_Js_isDone_8 rfl (lv_at hl 0 rfl) ?_
    refine zz_get C hK hP fl_Js_24 0 rfl rfl d_Js_isDone_9 ?_
    refine lv_icmp_ge (tgt := 48) hx hb d_Js_isDone_12 (by decide) (fun c_21 => ?_) (fun c_21 => ?_)
    · refine lv_iconst (v := 1) hx hb d_Js_isDone_48 (by decide) ?_
      exact zz_reti C (rfl) hS g (⟨hg, fun _ => rfl, fun h => absurd hd h⟩) hP hD d_Js_isDone_49
    · exact absurd (nI_le (Nat.le_refl _) (by omega)) c_21
  | succ f ih =>
    intro i hi hd H locs ls hP hD hS hl
    have hic : i < jc := by omega
    refine lv_iload_n hx hb d_Js_isDone_7 rfl (lv_at hl 2 rfl) ?_
    refine lv_aload_n hx hb d_Js_isDone_8 rfl (lv_at hl 0 rfl) ?_
    refine zz_get C hK hP fl_Js_24 0 rfl rfl d_Js_isDone_9 ?_
    refine lv_icmp_ge (tgt := 48) hx hb d_Js_isDone_12 (by decide) (fun c_22 => ?_) (fun c_22 => ?_)
    · exact absurd c_22 (nI_ge hic (by omega))
    · refine lv_aload_n hx hb d_Js_isDone_15 rfl (lv_at hl 0 rfl) ?_
      refine zz_get C hK hP fl_Js_18 0 rfl rfl d_Js_isDone_16 ?_
      refine lv_iload_n hx hb d_Js_isDone_19 rfl (lv_at hl 2 rfl) ?_
      refine zz_ialdN C hK hP 3 rfl (j := i) (by omega) (by omega) d_Js_isDone_20 ?_
      refine lv_iconst (v := (-1)) hx hb d_Js_isDone_21 (by decide) ?_
      refine lv_icmp_eq (tgt := 42) hx hb d_Js_isDone_22 (by decide) (fun c_23 => ?_) (fun c_23 => ?_)
      · refine lv_iinc (v := nI (i + 1)) (lv' := [(2, .int (nI (i + 1))), (0, .ref h0), (1, .int (nI x))]) hx hb d_Js_isDone_42 hl (k := 2) rfl (nI_1 _) (by decide) rfl (fun ls hl => ?_)
        refine lv_goto (tgt := 7) hx hb d_Js_isDone_45 (by decide) ?_
        exact ih (i + 1) (by omega) (lt_s hd (Or.inl c_23)) _ _ ls hP hD hS (lv_sub hl [1, 2, 0] rfl)
      · refine lv_aload_n hx hb d_Js_isDone_25 rfl (lv_at hl 0 rfl) ?_
        refine zz_get C hK hP fl_Js_18 0 rfl rfl d_Js_isDone_26 ?_
        refine lv_iload_n hx hb d_Js_isDone_29 rfl (lv_at hl 2 rfl) ?_
        refine zz_ialdN C hK hP 3 rfl (j := i) (by omega) (by omega) d_Js_isDone_30 ?_
        refine lv_aload_n hx hb d_Js_isDone_31 rfl (lv_at hl 0 rfl) ?_
        refine zz_get C hK hP fl_Js_21 0 rfl rfl d_Js_isDone_32 ?_
        refine lv_iload_n hx hb d_Js_isDone_35 rfl (lv_at hl 2 rfl) ?_
        refine zz_ialdN C hK hP 4 rfl (j := i) (by omega) (by omega) d_Js_isDone_36 ?_
        refine lv_icmp_eq (tgt := 42) hx hb d_Js_isDone_37 (by decide) (fun c_24 => ?_) (fun c_24 => ?_)
        · refine lv_iinc (v := nI (i + 1)) (lv' := [(2, .int (nI (i + 1))), (0, .ref h0), (1, .int (nI x))]) hx hb d_Js_isDone_42 hl (k := 2) rfl (nI_1 _) (by decide) rfl (fun ls hl => ?_)
          refine lv_goto (tgt := 7) hx hb d_Js_isDone_45 (by decide) ?_
          exact ih (i + 1) (by omega) (lt_s hd (Or.inr (c_24.trans (hg i hic)))) _ _ ls hP hD hS (lv_sub hl [1, 2, 0] rfl)
        · refine lv_iconst (v := 0) hx hb d_Js_isDone_40 (by decide) ?_
          exact zz_reti C (rfl) hS g (⟨hg, fun h => absurd (h i hic) (fun q => q.elim c_23 (fun z => c_24 (z.trans (hg i hic).symm))), fun _ => rfl⟩) hP hD d_Js_isDone_41

set_option maxHeartbeats 4000000 in
set_option maxRecDepth 100000 in
theorem c_Js_isDone (l : Launch) (E : zG) (h0 b1 b2 b3 b4 jc : Nat) (fS fF fW fV : Nat → Int32) (x : Nat) (hc : jc ≤ 4) (hx0 : x < 10000) : zMet l y_Js_isDone b_Js_isDone 3 (some .boolean) 1 23 0 0 E [.ref h0, .int (nI x)] [(h0, .inr (1, [.ref b1, .ref b2, .ref b3, .ref b4, .int (nI jc)])), (b1, zI E 4 fS), (b2, zI E 4 fF), (b3, zI E 4 fW), (b4, zI E 4 fV)] (zQi E (S := Nat → Int32) (fun r u => (∀ j, j < jc → u j = nI (jg_d x j)) ∧ ((∀ i, i < jc → fW i = -1 ∨ fW i = nI (jg_d x i)) → r = 1) ∧ (¬ (∀ i, i < jc → fW i = -1 ∨ fW i = nI (jg_d x i)) → r = 0)) (fun u => [(h0, .inr (1, [.ref b1, .ref b2, .ref b3, .ref b4, .int (nI jc)])), (b1, zI E 4 fS), (b2, zI E 4 fF), (b3, zI E 4 fW), (b4, zI E 4 u)])) := by
  refine zz_met (by decide +kernel) (Nat.le_of_ble_eq_true rfl) ?_
  intro p e s m below meth c A ls C hin hA hK hst hP hD hl
  obtain ⟨hx, hb, hr, hml, hown, hts, hlk⟩ := id C
  have hS : va_S A s.heap s.heap [] := va_S.rf
  have hl : lv_has ls 3 [(0, .ref h0), (1, .int (nI x))] := hl
  refine lv_aload_n hx hb d_Js_isDone_0 rfl (lv_at hl 0 rfl) ?_
  refine lv_iload_n hx hb d_Js_isDone_1 rfl (lv_at hl 1 rfl) ?_
  refine zz_gov (wr := []) [0, 1, 2, 3, 4] [] rfl rfl (by decide) (by decide) hA hP hD hS (zz_runV (wc := [(h0, .inr (1, [.ref b1, .ref b2, .ref b3, .ref b4, .int (nI jc)])), (b1, zI E 4 fS), (b2, zI E 4 fF), (b3, zI E 4 fW), (b4, zI E 4 fV)]) (As := [.int (nI x)]) (rest := []) C (c_Js_readLevels l E h0 b1 b2 b3 b4 jc fS fF fW fV x hc hx0) ym_Js_readLevels wd_ml_Js_31 wd_im_Js_readLevels wd_se_Js_readLevels [0, 1, 2, 3, 4] (by decide) rfl hA hK hst hP hD hS (ci := 1) (q0 := 0) rfl rfl rfl rfl hl.1 rfl (Nat.le_of_ble_eq_true rfl) ⟨Nat.le_of_ble_eq_true rfl, Nat.le_of_ble_eq_true rfl⟩ ⟨Nat.le_of_ble_eq_true rfl, Nat.le_of_ble_eq_true rfl⟩ d_Js_isDone_2) (fun u H locs hw hP hD hS => ?_)
  have hP : va_P E.1 vwCl [(h0, .inr (1, [.ref b1, .ref b2, .ref b3, .ref b4, .int (nI jc)])), (b1, zI E 4 fS), (b2, zI E 4 fF), (b3, zI E 4 fW), (b4, zI E 4 u)] H := hP
  have hD : va_D A [(h0, .inr (1, [.ref b1, .ref b2, .ref b3, .ref b4, .int (nI jc)])), (b1, zI E 4 fS), (b2, zI E 4 fF), (b3, zI E 4 fW), (b4, zI E 4 u)] := hD
  refine lv_iconst (v := 0) hx hb d_Js_isDone_5 (by decide) ?_
  refine lv_istore_n (lv' := [(2, .int 0), (0, .ref h0), (1, .int (nI x))]) hx hb d_Js_isDone_6 rfl hl (by decide) rfl (fun ls hl => ?_)
  have hl := lv_sub (l' := [(0, .ref h0), (1, .int (nI x)), (2, .int (nI 0))]) hl [1, 2, 0] (rfl)
  exact lp_Js_isDone hc hx0 hw C hA hK hst jc 0 (by omega) lt_0 _ _ ls hP hD hS hl

set_option maxHeartbeats 4000000 in
set_option maxRecDepth 100000 in
theorem c_Js_roomIn (l : Launch) (E : zG) (h0 b1 b2 b3 b4 jc : Nat) (fS fF fW fV : Nat → Int32) (i a b : Nat) (hi : i < jc) (hc : jc ≤ 4) (ha : fS i = nI a) (hb0 : fV i = nI b) (hab : b ≤ a) : zMet l y_Js_roomIn b_Js_roomIn 2 (some .int) 0 0 0 0 E [.ref h0, .int (nI i)] [(h0, .inr (1, [.ref b1, .ref b2, .ref b3, .ref b4, .int (nI jc)])), (b1, zI E 4 fS), (b2, zI E 4 fF), (b3, zI E 4 fW), (b4, zI E 4 fV)] (zQi E (S := Unit) (fun r _ => r = nI (a - b)) (fun _ => [(h0, .inr (1, [.ref b1, .ref b2, .ref b3, .ref b4, .int (nI jc)])), (b1, zI E 4 fS), (b2, zI E 4 fF), (b3, zI E 4 fW), (b4, zI E 4 fV)])) := by
  refine zz_met (by decide +kernel) (Nat.le_of_ble_eq_true rfl) ?_
  intro p e s m below meth c A ls C hin hA hK hst hP hD hl
  obtain ⟨hx, hb, hr, hml, hown, hts, hlk⟩ := id C
  have hS : va_S A s.heap s.heap [] := va_S.rf
  have hl : lv_has ls 2 [(0, .ref h0), (1, .int (nI i))] := hl
  refine lv_iload_n hx hb d_Js_roomIn_0 rfl (lv_at hl 1 rfl) ?_
  refine lv_if_lt (tgt := 12) hx hb d_Js_roomIn_1 (by decide) (fun c_26 => ?_) (fun c_26 => ?_)
  · exact absurd c_26 (nI_pos (by omega))
  · refine lv_iload_n hx hb d_Js_roomIn_4 rfl (lv_at hl 1 rfl) ?_
    refine lv_aload_n hx hb d_Js_roomIn_5 rfl (lv_at hl 0 rfl) ?_
    refine zz_get C hK hP fl_Js_24 0 rfl rfl d_Js_roomIn_6 ?_
    refine lv_icmp_lt (tgt := 16) hx hb d_Js_roomIn_9 (by decide) (fun c_27 => ?_) (fun c_27 => ?_)
    · refine lv_aload_n hx hb d_Js_roomIn_16 rfl (lv_at hl 0 rfl) ?_
      refine zz_get C hK hP fl_Js_11 0 rfl rfl d_Js_roomIn_17 ?_
      refine lv_iload_n hx hb d_Js_roomIn_20 rfl (lv_at hl 1 rfl) ?_
      refine zz_ialdN C hK hP 1 rfl (j := i) (by omega) (by omega) d_Js_roomIn_21 ?_
      refine lv_aload_n hx hb d_Js_roomIn_22 rfl (lv_at hl 0 rfl) ?_
      refine zz_get C hK hP fl_Js_21 0 rfl rfl d_Js_roomIn_23 ?_
      refine lv_iload_n hx hb d_Js_roomIn_26 rfl (lv_at hl 1 rfl) ?_
      refine zz_ialdN C hK hP 4 rfl (j := i) (by omega) (by omega) d_Js_roomIn_27 ?_
      refine lv_isub hx hb d_Js_roomIn_28 ?_
      exact zz_reti C (rfl) hS () (by rw [ha, hb0]; exact pk_sub hab) hP hD d_Js_roomIn_29
    · exact absurd (nI_lt hi (by omega)) c_27

set_option maxHeartbeats 4000000 in
set_option maxRecDepth 100000 in
theorem c_Js_codeOf (l : Launch) (E : zG) (a b : Nat) (ha : a < 5) (hb0 : b < 5) : zMet l y_Js_codeOf b_Js_codeOf 2 (some .int) 0 0 0 0 E [.int (nI a - 1), .int (nI b - 1)] [] (zQi E (S := Unit) (fun r _ => r = nI (a * 8 + b)) (fun _ => [])) := by
  refine zz_met (by decide +kernel) (Nat.le_of_ble_eq_true rfl) ?_
  intro p e s m below meth c A ls C hin hA hK hst hP hD hl
  obtain ⟨hx, hb, hr, hml, hown, hts, hlk⟩ := id C
  have hS : va_S A s.heap s.heap [] := va_S.rf
  have hl : lv_has ls 2 [(0, .int (nI a - 1)), (1, .int (nI b - 1))] := hl
  refine lv_iload_n hx hb d_Js_codeOf_0 rfl (lv_at hl 0 rfl) ?_
  refine lv_iconst (v := 1) hx hb d_Js_codeOf_1 (by decide) ?_
  refine lv_iadd hx hb d_Js_codeOf_2 ?_
  refine lv_iconst (v := 3) hx hb d_Js_codeOf_3 (by decide) ?_
  refine lv_ishl hx hb d_Js_codeOf_4 ?_
  refine lv_iload_n hx hb d_Js_codeOf_5 rfl (lv_at hl 1 rfl) ?_
  refine lv_iconst (v := 1) hx hb d_Js_codeOf_6 (by decide) ?_
  refine lv_iadd hx hb d_Js_codeOf_7 ?_
  refine lv_ior hx hb d_Js_codeOf_8 ?_
  exact zz_reti C (rfl) hS () (jg_code a ha b hb0) hP hD d_Js_codeOf_9

set_option maxHeartbeats 4000000 in
set_option maxRecDepth 100000 in
theorem c_Js_firstTold (l : Launch) (E : zG) (h0 b1 b2 b3 b4 jc : Nat) (fS fF fW fV : Nat → Int32) (k : Int32) : zMet l y_Js_firstTold b_Js_firstTold 2 (some .int) 0 0 0 0 E [.ref h0, .int k] [(h0, .inr (1, [.ref b1, .ref b2, .ref b3, .ref b4, .int (nI jc)])), (b1, zI E 4 fS), (b2, zI E 4 fF), (b3, zI E 4 fW), (b4, zI E 4 fV)] (zQi E (S := Unit) (fun r _ => r = (k >>> ((3 : Int32) &&& 31)) - 1) (fun _ => [(h0, .inr (1, [.ref b1, .ref b2, .ref b3, .ref b4, .int (nI jc)])), (b1, zI E 4 fS), (b2, zI E 4 fF), (b3, zI E 4 fW), (b4, zI E 4 fV)])) := by
  refine zz_met (by decide +kernel) (Nat.le_of_ble_eq_true rfl) ?_
  intro p e s m below meth c A ls C hin hA hK hst hP hD hl
  obtain ⟨hx, hb, hr, hml, hown, hts, hlk⟩ := id C
  have hS : va_S A s.heap s.heap [] := va_S.rf
  have hl : lv_has ls 2 [(0, .ref h0), (1, .int k)] := hl
  refine lv_iload_n hx hb d_Js_firstTold_0 rfl (lv_at hl 1 rfl) ?_
  refine lv_iconst (v := 3) hx hb d_Js_firstTold_1 (by decide) ?_
  refine lv_ishr hx hb d_Js_firstTold_2 ?_
  refine lv_iconst (v := 1) hx hb d_Js_firstTold_3 (by decide) ?_
  refine lv_isub hx hb d_Js_firstTold_4 ?_
  exact zz_reti C (rfl) hS () (rfl) hP hD d_Js_firstTold_5

set_option maxHeartbeats 4000000 in
set_option maxRecDepth 100000 in
theorem c_Js_secondTold (l : Launch) (E : zG) (h0 b1 b2 b3 b4 jc : Nat) (fS fF fW fV : Nat → Int32) (k z : Int32) : zMet l y_Js_secondTold b_Js_secondTold 3 (some .int) 0 0 0 0 E [.ref h0, .int k, .int z] [(h0, .inr (1, [.ref b1, .ref b2, .ref b3, .ref b4, .int (nI jc)])), (b1, zI E 4 fS), (b2, zI E 4 fF), (b3, zI E 4 fW), (b4, zI E 4 fV)] (zQi E (S := Unit) (fun r _ => r = (k &&& 7) - 1) (fun _ => [(h0, .inr (1, [.ref b1, .ref b2, .ref b3, .ref b4, .int (nI jc)])), (b1, zI E 4 fS), (b2, zI E 4 fF), (b3, zI E 4 fW), (b4, zI E 4 fV)])) := by
  refine zz_met (by decide +kernel) (Nat.le_of_ble_eq_true rfl) ?_
  intro p e s m below meth c A ls C hin hA hK hst hP hD hl
  obtain ⟨hx, hb, hr, hml, hown, hts, hlk⟩ := id C
  have hS : va_S A s.heap s.heap [] := va_S.rf
  have hl : lv_has ls 3 [(0, .ref h0), (1, .int k), (2, .int z)] := hl
  refine lv_iload_n hx hb d_Js_secondTold_0 rfl (lv_at hl 1 rfl) ?_
  refine lv_bipush (v := 7) hx hb d_Js_secondTold_1 (by decide) ?_
  refine lv_iand hx hb d_Js_secondTold_3 ?_
  refine lv_iconst (v := 1) hx hb d_Js_secondTold_4 (by decide) ?_
  refine lv_isub hx hb d_Js_secondTold_5 ?_
  exact zz_reti C (rfl) hS () (rfl) hP hD d_Js_secondTold_6

set_option maxHeartbeats 4000000 in
set_option maxRecDepth 100000 in
theorem lp_Js_meet3 {p : Program} {l : Launch} {e : Env} {s : State} {m : MethodId} {below : List Frame} {meth : Method} {c : Code} {A : Nat → Prop}  {E : zG} {h0 b1 b2 b3 b4 jc : Nat} {fS fF fW fV : Nat → Int32} {sz fl : Nat → Nat} {g0 a1 a2 n : Nat} {st : (Nat → Nat) × List Nat} {x : Nat} (hJ : jg_ok jc sz fl fS fF) (hG : jg_good jc sz x) (hn : n ≤ 10000) (hnc : 10 ^ jc ≤ n) (hV : ∀ j, j < jc → fV j = nI (jg_d x j)) {tD : Nat} (hZD : va_Z "StatePuzzles$JugSet" "DIGIT" "[I" (.ref tD) A s s.heap) (hTD : va_T .int tD 4 (fun j => .int (nI (10 ^ j))) A s s.heap) {i : Nat} (hic : i < jc) {S0 : (Nat → Nat) × List Nat} (C : cx p s m #[.ref h0, .int (nI x), .ref g0] meth c b_Js_meetNext 6 y_Js_meetNext.cls none) (hA : ∀ q, s.heap.size ≤ q → A q) (hK : kt E s) (hst : stt A s s.heap) :
    ∀ (f j : Nat) (fT fQ : Nat → Int32) (_ : j + f = jc) (_ : bfs_RS n (jg_l3 sz x i S0 j) fT fQ) (_ : bfs_I n x (jg_l3 sz x i S0 j)) (kk : ∀ (fT fQ : Nat → Int32) (H : Heap) (locs : List Loc) (ls : Array Slot), bfs_RS n (jg_l3 sz x i S0 jc) fT fQ → bfs_I n x (jg_l3 sz x i S0 jc) → va_P E.1 vwCl [(h0, .inr (1, [.ref b1, .ref b2, .ref b3, .ref b4, .int (nI jc)])), (b1, zI E 4 fS), (b2, zI E 4 fF), (b3, zI E 4 fW), (b4, zI E 4 fV), (g0, .inr (4, [.ref a1, .ref a2, .int (nI (jg_l3 sz x i S0 jc).2.length)])), (a1, zI E n fT), (a2, zI E n fQ)] H → va_D A [(h0, .inr (1, [.ref b1, .ref b2, .ref b3, .ref b4, .int (nI jc)])), (b1, zI E 4 fS), (b2, zI E 4 fF), (b3, zI E 4 fW), (b4, zI E 4 fV), (g0, .inr (4, [.ref a1, .ref a2, .int (nI (jg_l3 sz x i S0 jc).2.length)])), (a1, zI E n fT), (a2, zI E n fQ)] → va_S A s.heap H locs → lv_has ls 6 [(0, .ref h0), (1, .int (nI x)), (2, .ref g0), (3, .int (nI i))] → W p l e (zR 1 23 0 0) s m #[.ref h0, .int (nI x), .ref g0] below meth c H locs 0 0 (MQ below ((zQv E (S := (Nat → Int32) × (Nat → Int32) × (Nat → Int32)) (fun u => bfs_RS n (jg_next jc sz x st) u.2.1 u.2.2) (fun u => [(h0, .inr (1, [.ref b1, .ref b2, .ref b3, .ref b4, .int (nI jc)])), (b1, zI E 4 fS), (b2, zI E 4 fF), (b3, zI E 4 fW), (b4, zI E 4 u.1), (g0, .inr (4, [.ref a1, .ref a2, .int (nI (jg_next jc sz x st).2.length)])), (a1, zI E n u.2.1), (a2, zI E n u.2.2)])) A) #[.ref h0, .int (nI x), .ref g0] s 0 0 A) (F0 m 141 ls [])) (H : Heap) (locs : List Loc) (ls : Array Slot), va_P E.1 vwCl [(h0, .inr (1, [.ref b1, .ref b2, .ref b3, .ref b4, .int (nI jc)])), (b1, zI E 4 fS), (b2, zI E 4 fF), (b3, zI E 4 fW), (b4, zI E 4 fV), (g0, .inr (4, [.ref a1, .ref a2, .int (nI (jg_l3 sz x i S0 j).2.length)])), (a1, zI E n fT), (a2, zI E n fQ)] H → va_D A [(h0, .inr (1, [.ref b1, .ref b2, .ref b3, .ref b4, .int (nI jc)])), (b1, zI E 4 fS), (b2, zI E 4 fF), (b3, zI E 4 fW), (b4, zI E 4 fV), (g0, .inr (4, [.ref a1, .ref a2, .int (nI (jg_l3 sz x i S0 j).2.length)])), (a1, zI E n fT), (a2, zI E n fQ)] → va_S A s.heap H locs → lv_has ls 6 [(0, .ref h0), (1, .int (nI x)), (2, .ref g0), (3, .int (nI i)), (4, .int (nI j))] → W p l e (zR 1 23 0 0) s m #[.ref h0, .int (nI x), .ref g0] below meth c H locs 0 0 (MQ below ((zQv E (S := (Nat → Int32) × (Nat → Int32) × (Nat → Int32)) (fun u => bfs_RS n (jg_next jc sz x st) u.2.1 u.2.2) (fun u => [(h0, .inr (1, [.ref b1, .ref b2, .ref b3, .ref b4, .int (nI jc)])), (b1, zI E 4 fS), (b2, zI E 4 fF), (b3, zI E 4 fW), (b4, zI E 4 u.1), (g0, .inr (4, [.ref a1, .ref a2, .int (nI (jg_next jc sz x st).2.length)])), (a1, zI E n u.2.1), (a2, zI E n u.2.2)])) A) #[.ref h0, .int (nI x), .ref g0] s 0 0 A) (F0 m 81 ls []) := by
  obtain ⟨hx, hb, hr, hml, hown, hts, hlk⟩ := id C
  have hc := hJ.1
  have hxn : x < n := Nat.lt_of_lt_of_le hG.1 hnc
  have hi := hJ.2 i hic
  intro f
  induction f with
  | zero =>
    intro j fT fQ hj hR hI kk H locs ls hP hD hS hl
    have hj : j = jc := by omega
    subst hj
    refine lv_iload hx hb d_Js_meetNext_81 (lv_at hl 4 rfl) ?_
    refine lv_aload_n hx hb d_Js_meetNext_83 rfl (lv_at hl 0 rfl) ?_
    refine zz_get C hK hP fl_Js_24 0 rfl rfl d_Js_meetNext_84 ?_
    refine lv_icmp_ge (tgt := 141) hx hb d_Js_meetNext_87 (by decide) (fun c_28 => ?_) (fun c_28 => ?_)
    · exact kk fT fQ _ _ ls hR hI hP hD hS (lv_sub hl [0, 1, 2, 3] rfl)
    · exact absurd (nI_le (Nat.le_refl _) (by omega)) c_28
  | succ f ih =>
    intro j fT fQ hj hR hI kk H locs ls hP hD hS hl
    have hjc : j < jc := by omega
    have hq := hJ.2 j hjc
    refine lv_iload hx hb d_Js_meetNext_81 (lv_at hl 4 rfl) ?_
    refine lv_aload_n hx hb d_Js_meetNext_83 rfl (lv_at hl 0 rfl) ?_
    refine zz_get C hK hP fl_Js_24 0 rfl rfl d_Js_meetNext_84 ?_
    refine lv_icmp_ge (tgt := 141) hx hb d_Js_meetNext_87 (by decide) (fun c_29 => ?_) (fun c_29 => ?_)
    · exact absurd c_29 (nI_ge hjc (by omega))
    · refine lv_aload_n hx hb d_Js_meetNext_90 rfl (lv_at hl 0 rfl) ?_
      refine zz_get C hK hP fl_Js_21 0 rfl rfl d_Js_meetNext_91 ?_
      refine lv_iload_n hx hb d_Js_meetNext_94 rfl (lv_at hl 3 rfl) ?_
      refine zz_ialdN C hK hP 4 rfl (j := i) (by omega) (by omega) d_Js_meetNext_95 ?_
      refine lv_aload_n hx hb d_Js_meetNext_96 rfl (lv_at hl 0 rfl) ?_
      refine lv_iload hx hb d_Js_meetNext_97 (lv_at hl 4 rfl) ?_
      refine zz_goi (wr := [(g0, .inr (4, [.ref a1, .ref a2, .int (nI (jg_l3 sz x i S0 j).2.length)])), (a1, zI E n fT), (a2, zI E n fQ)]) [0, 1, 2, 3, 4] [5, 6, 7] rfl rfl (by decide) (by decide) hA hP hD hS (zz_runV (wc := [(h0, .inr (1, [.ref b1, .ref b2, .ref b3, .ref b4, .int (nI jc)])), (b1, zI E 4 fS), (b2, zI E 4 fF), (b3, zI E 4 fW), (b4, zI E 4 fV)]) (As := [.int (nI j)]) (rest := [.int (fV i)]) C (c_Js_roomIn l E h0 b1 b2 b3 b4 jc fS fF fW fV j (sz j) (jg_d x j) hjc hc hq.1 (hV j hjc) (hG.2 j hjc)) ym_Js_roomIn wd_ml_Js_35 wd_im_Js_roomIn wd_se_Js_roomIn [0, 1, 2, 3, 4] (by decide) rfl hA hK hst hP hD hS (ci := 1) (q0 := 0) rfl rfl rfl rfl hl.1 rfl (Nat.le_of_ble_eq_true rfl) ⟨Nat.le_of_ble_eq_true rfl, Nat.le_of_ble_eq_true rfl⟩ ⟨Nat.le_of_ble_eq_true rfl, Nat.le_of_ble_eq_true rfl⟩ d_Js_meetNext_99) (fun r_30 u H locs hw hP hD hS => ?_)
      have hP : va_P E.1 vwCl [(g0, .inr (4, [.ref a1, .ref a2, .int (nI (jg_l3 sz x i S0 j).2.length)])), (a1, zI E n fT), (a2, zI E n fQ), (h0, .inr (1, [.ref b1, .ref b2, .ref b3, .ref b4, .int (nI jc)])), (b1, zI E 4 fS), (b2, zI E 4 fF), (b3, zI E 4 fW), (b4, zI E 4 fV)] H := hP
      have hD : va_D A [(g0, .inr (4, [.ref a1, .ref a2, .int (nI (jg_l3 sz x i S0 j).2.length)])), (a1, zI E n fT), (a2, zI E n fQ), (h0, .inr (1, [.ref b1, .ref b2, .ref b3, .ref b4, .int (nI jc)])), (b1, zI E 4 fS), (b2, zI E 4 fF), (b3, zI E 4 fW), (b4, zI E 4 fV)] := hD
      subst hw
      rw [hV i hic]
      refine zz_min C wd_ml_Js_49 wd_st_min wd_in_math wd_cd_min hl.1 (Nat.le_of_ble_eq_true rfl) (Nat.le_of_ble_eq_true rfl) (Nat.le_of_ble_eq_true rfl) (Nat.le_of_ble_eq_true rfl) d_Js_meetNext_102 ?_
      refine zz_eqi (y := nI (jg_p sz x i j)) (jg_p_i32 hq.2.2.1) ?_
      refine lv_istore (lv' := [(5, .int (nI (jg_p sz x i j))), (0, .ref h0), (1, .int (nI x)), (2, .ref g0), (3, .int (nI i)), (4, .int (nI j))]) hx hb d_Js_meetNext_105 hl (by decide) rfl (fun ls hl => ?_)
      refine lv_aload_n hx hb d_Js_meetNext_107 rfl (lv_at hl 3 rfl) ?_
      refine lv_iload_n hx hb d_Js_meetNext_108 rfl (lv_at hl 2 rfl) ?_
      refine lv_iload hx hb d_Js_meetNext_109 (lv_at hl 0 rfl) ?_
      refine va_gets hx hb hZD hS hown (hts _ wd_fs_Js_28) (fun _ h9 => h9) d_Js_meetNext_111 ?_
      refine lv_iload hx hb d_Js_meetNext_114 (lv_at hl 5 rfl) ?_
      refine zz_tabI C hTD hS (j := j) (by omega) (by decide) d_Js_meetNext_116 ?_
      refine va_gets hx hb hZD hS hown (hts _ wd_fs_Js_28) (fun _ h9 => h9) d_Js_meetNext_117 ?_
      refine lv_iload_n hx hb d_Js_meetNext_120 rfl (lv_at hl 4 rfl) ?_
      refine zz_tabI C hTD hS (j := i) (by omega) (by decide) d_Js_meetNext_121 ?_
      refine lv_isub hx hb d_Js_meetNext_122 ?_
      refine lv_imul hx hb d_Js_meetNext_123 ?_
      refine lv_iadd hx hb d_Js_meetNext_124 ?_
      refine zz_eqi (y := nI (x + jg_p sz x i j * 10 ^ j - jg_p sz x i j * 10 ^ i)) (jg_ring jg_pour_sub) ?_
      refine lv_iload_n hx hb d_Js_meetNext_125 rfl (lv_at hl 2 rfl) ?_
      refine lv_iload_n hx hb d_Js_meetNext_126 rfl (lv_at hl 4 rfl) ?_
      refine lv_iload hx hb d_Js_meetNext_127 (lv_at hl 5 rfl) ?_
      refine zz_eqi (y := nI (j + 1) - 1) (nI_pred j).symm ?_
      rw [show (F0 m 129 ls (.int (nI (j + 1) - 1) :: .int (nI i) :: [.int (nI x), .int (nI (x + jg_p sz x i j * 10 ^ j - jg_p sz x i j * 10 ^ i)), .ref g0])) = F0 m 129 ls (.int (nI (j + 1) - 1) :: .int (nI (i + 1) - 1) :: [.int (nI x), .int (nI (x + jg_p sz x i j * 10 ^ j - jg_p sz x i j * 10 ^ i)), .ref g0]) from by rw [nI_pred i]]
      refine zz_goi (wr := [(g0, .inr (4, [.ref a1, .ref a2, .int (nI (jg_l3 sz x i S0 j).2.length)])), (a1, zI E n fT), (a2, zI E n fQ), (h0, .inr (1, [.ref b1, .ref b2, .ref b3, .ref b4, .int (nI jc)])), (b1, zI E 4 fS), (b2, zI E 4 fF), (b3, zI E 4 fW), (b4, zI E 4 fV)]) [] [0, 1, 2, 3, 4, 5, 6, 7] rfl rfl (by decide) (by decide) hA hP hD hS (zz_runS (wc := []) (As := [.int (nI (i + 1) - 1), .int (nI (j + 1) - 1)]) (rest := [.int (nI x), .int (nI (x + jg_p sz x i j * 10 ^ j - jg_p sz x i j * 10 ^ i)), .ref g0]) C (c_Js_codeOf l E (i + 1) (j + 1) (by omega) (by omega)) ym_Js_codeOf wd_ml_Js_39 wd_st_Js_codeOf [] (by decide) rfl hA hK hst hP hD hS rfl hl.1 rfl (Nat.le_of_ble_eq_true rfl) ⟨Nat.le_of_ble_eq_true rfl, Nat.le_of_ble_eq_true rfl⟩ ⟨Nat.le_of_ble_eq_true rfl, Nat.le_of_ble_eq_true rfl⟩ d_Js_meetNext_129) (fun r_31 u H locs hw hP hD hS => ?_)
      have hP : va_P E.1 vwCl [(g0, .inr (4, [.ref a1, .ref a2, .int (nI (jg_l3 sz x i S0 j).2.length)])), (a1, zI E n fT), (a2, zI E n fQ), (h0, .inr (1, [.ref b1, .ref b2, .ref b3, .ref b4, .int (nI jc)])), (b1, zI E 4 fS), (b2, zI E 4 fF), (b3, zI E 4 fW), (b4, zI E 4 fV)] H := hP
      have hD : va_D A [(g0, .inr (4, [.ref a1, .ref a2, .int (nI (jg_l3 sz x i S0 j).2.length)])), (a1, zI E n fT), (a2, zI E n fQ), (h0, .inr (1, [.ref b1, .ref b2, .ref b3, .ref b4, .int (nI jc)])), (b1, zI E 4 fS), (b2, zI E 4 fF), (b3, zI E 4 fW), (b4, zI E 4 fV)] := hD
      subst hw
      refine zz_gov (wr := [(h0, .inr (1, [.ref b1, .ref b2, .ref b3, .ref b4, .int (nI jc)])), (b1, zI E 4 fS), (b2, zI E 4 fF), (b3, zI E 4 fW), (b4, zI E 4 fV)]) [0, 1, 2] [3, 4, 5, 6, 7] rfl rfl (by decide) (by decide) hA hP hD hS (zz_runV (wc := [(g0, .inr (4, [.ref a1, .ref a2, .int (nI (jg_l3 sz x i S0 j).2.length)])), (a1, zI E n fT), (a2, zI E n fQ)]) (As := [.int (nI (x + jg_p sz x i j * 10 ^ j - jg_p sz x i j * 10 ^ i)), .int (nI x), .int (nI ((i + 1) * 8 + (j + 1)))]) (rest := []) C (c_Se_meet l E g0 a1 a2 n fT fQ (jg_l3 sz x i S0 j) (x + jg_p sz x i j * 10 ^ j - jg_p sz x i j * 10 ^ i) x ((i + 1) * 8 + (j + 1)) hn (Nat.lt_of_lt_of_le (jg_pour_lt (i := i) hc hjc hG.1 hq.2.2.1 (hG.2 j hjc)) hnc) hxn (by omega) hR hI.1) ym_Se_meet wd_ml_Js_43 wd_im_Se_meet wd_se_Se_meet [0, 1, 2] (by decide) rfl hA hK hst hP hD hS (ci := 4) (q0 := 0) rfl rfl rfl rfl hl.1 rfl (Nat.le_of_ble_eq_true rfl) ⟨Nat.le_of_ble_eq_true rfl, Nat.le_of_ble_eq_true rfl⟩ ⟨Nat.le_of_ble_eq_true rfl, Nat.le_of_ble_eq_true rfl⟩ d_Js_meetNext_132) (fun u_32 H locs hR hP hD hS => ?_)
      have hP : va_P E.1 vwCl [(h0, .inr (1, [.ref b1, .ref b2, .ref b3, .ref b4, .int (nI jc)])), (b1, zI E 4 fS), (b2, zI E 4 fF), (b3, zI E 4 fW), (b4, zI E 4 fV), (g0, .inr (4, [.ref a1, .ref a2, .int (nI (bfs_mt (jg_l3 sz x i S0 j) x (x + jg_p sz x i j * 10 ^ j - jg_p sz x i j * 10 ^ i, (i + 1) * 8 + (j + 1))).2.length)])), (a1, zI E n u_32.1), (a2, zI E n u_32.2)] H := hP
      have hD : va_D A [(h0, .inr (1, [.ref b1, .ref b2, .ref b3, .ref b4, .int (nI jc)])), (b1, zI E 4 fS), (b2, zI E 4 fF), (b3, zI E 4 fW), (b4, zI E 4 fV), (g0, .inr (4, [.ref a1, .ref a2, .int (nI (bfs_mt (jg_l3 sz x i S0 j) x (x + jg_p sz x i j * 10 ^ j - jg_p sz x i j * 10 ^ i, (i + 1) * 8 + (j + 1))).2.length)])), (a1, zI E n u_32.1), (a2, zI E n u_32.2)] := hD
      refine lv_iinc (v := nI (j + 1)) (lv' := [(4, .int (nI (j + 1))), (5, .int (nI (jg_p sz x i j))), (0, .ref h0), (1, .int (nI x)), (2, .ref g0), (3, .int (nI i))]) hx hb d_Js_meetNext_135 hl (k := 5) rfl (nI_1 _) (by decide) rfl (fun ls hl => ?_)
      refine lv_goto (tgt := 81) hx hb d_Js_meetNext_138 (by decide) ?_
      have hI2 : bfs_I n x (jg_l3 sz x i S0 (j + 1)) := bfs_mt_I hI hn hxn (Nat.lt_of_lt_of_le (jg_pour_lt (i := i) hc hjc hG.1 hq.2.2.1 (hG.2 j hjc)) hnc) (show (i + 1) * 8 + (j + 1) < 256 by omega)
      exact ih (j + 1) u_32.1 u_32.2 (by omega) hR hI2 kk _ _ ls hP hD hS (lv_sub hl [2, 3, 4, 5, 0] rfl)

set_option maxHeartbeats 4000000 in
set_option maxRecDepth 100000 in
theorem lp_Js_meet2 {p : Program} {l : Launch} {e : Env} {s : State} {m : MethodId} {below : List Frame} {meth : Method} {c : Code} {A : Nat → Prop}  {E : zG} {h0 b1 b2 b3 b4 jc : Nat} {fS fF fW fV : Nat → Int32} {sz fl : Nat → Nat} {g0 a1 a2 n : Nat} {st : (Nat → Nat) × List Nat} {x : Nat} (hJ : jg_ok jc sz fl fS fF) (hG : jg_good jc sz x) (hn : n ≤ 10000) (hnc : 10 ^ jc ≤ n) (hV : ∀ j, j < jc → fV j = nI (jg_d x j)) {tD : Nat} (hZD : va_Z "StatePuzzles$JugSet" "DIGIT" "[I" (.ref tD) A s s.heap) (hTD : va_T .int tD 4 (fun j => .int (nI (10 ^ j))) A s s.heap) {S1 : (Nat → Nat) × List Nat} (hS1 : S1 = jg_l1 sz x st jc) (C : cx p s m #[.ref h0, .int (nI x), .ref g0] meth c b_Js_meetNext 6 y_Js_meetNext.cls none) (hA : ∀ q, s.heap.size ≤ q → A q) (hK : kt E s) (hst : stt A s s.heap) :
    ∀ (f i : Nat) (fT fQ : Nat → Int32) (_ : i + f = jc) (_ : bfs_RS n (jg_l2 jc sz x S1 i) fT fQ) (_ : bfs_I n x (jg_l2 jc sz x S1 i)) (H : Heap) (locs : List Loc) (ls : Array Slot), va_P E.1 vwCl [(h0, .inr (1, [.ref b1, .ref b2, .ref b3, .ref b4, .int (nI jc)])), (b1, zI E 4 fS), (b2, zI E 4 fF), (b3, zI E 4 fW), (b4, zI E 4 fV), (g0, .inr (4, [.ref a1, .ref a2, .int (nI (jg_l2 jc sz x S1 i).2.length)])), (a1, zI E n fT), (a2, zI E n fQ)] H → va_D A [(h0, .inr (1, [.ref b1, .ref b2, .ref b3, .ref b4, .int (nI jc)])), (b1, zI E 4 fS), (b2, zI E 4 fF), (b3, zI E 4 fW), (b4, zI E 4 fV), (g0, .inr (4, [.ref a1, .ref a2, .int (nI (jg_l2 jc sz x S1 i).2.length)])), (a1, zI E n fT), (a2, zI E n fQ)] → va_S A s.heap H locs → lv_has ls 6 [(0, .ref h0), (1, .int (nI x)), (2, .ref g0), (3, .int (nI i))] → W p l e (zR 1 23 0 0) s m #[.ref h0, .int (nI x), .ref g0] below meth c H locs 0 0 (MQ below ((zQv E (S := (Nat → Int32) × (Nat → Int32) × (Nat → Int32)) (fun u => bfs_RS n (jg_next jc sz x st) u.2.1 u.2.2) (fun u => [(h0, .inr (1, [.ref b1, .ref b2, .ref b3, .ref b4, .int (nI jc)])), (b1, zI E 4 fS), (b2, zI E 4 fF), (b3, zI E 4 fW), (b4, zI E 4 u.1), (g0, .inr (4, [.ref a1, .ref a2, .int (nI (jg_next jc sz x st).2.length)])), (a1, zI E n u.2.1), (a2, zI E n u.2.2)])) A) #[.ref h0, .int (nI x), .ref g0] s 0 0 A) (F0 m 46 ls []) := by
  obtain ⟨hx, hb, hr, hml, hown, hts, hlk⟩ := id C
  have hc := hJ.1
  have hxn : x < n := Nat.lt_of_lt_of_le hG.1 hnc
  intro f
  induction f with
  | zero =>
    intro i fT fQ hi hR hI H locs ls hP hD hS hl
    have hi : i = jc := by omega
    subst hi
    refine lv_iload_n hx hb d_Js_meetNext_46 rfl (lv_at hl 3 rfl) ?_
    refine lv_aload_n hx hb d_Js_meetNext_47 rfl (lv_at hl 0 rfl) ?_
    refine zz_get C hK hP fl_Js_24 0 rfl rfl d_Js_meetNext_48 ?_
    refine lv_icmp_ge (tgt := 147) hx hb d_Js_meetNext_51 (by decide) (fun c_34 => ?_) (fun c_34 => ?_)
    · subst hS1
      exact zz_retv C hS (fV, fT, fQ) (hR) hP hD d_Js_meetNext_147
    · exact absurd (nI_le (Nat.le_refl _) (by omega)) c_34
  | succ f ih =>
    intro i fT fQ hi hR hI H locs ls hP hD hS hl
    have hic : i < jc := by omega
    have hq := hJ.2 i hic
    refine lv_iload_n hx hb d_Js_meetNext_46 rfl (lv_at hl 3 rfl) ?_
    refine lv_aload_n hx hb d_Js_meetNext_47 rfl (lv_at hl 0 rfl) ?_
    refine zz_get C hK hP fl_Js_24 0 rfl rfl d_Js_meetNext_48 ?_
    refine lv_icmp_ge (tgt := 147) hx hb d_Js_meetNext_51 (by decide) (fun c_35 => ?_) (fun c_35 => ?_)
    · exact absurd c_35 (nI_ge hic (by omega))
    · refine lv_aload_n hx hb d_Js_meetNext_54 rfl (lv_at hl 2 rfl) ?_
      refine lv_iload_n hx hb d_Js_meetNext_55 rfl (lv_at hl 1 rfl) ?_
      refine lv_aload_n hx hb d_Js_meetNext_56 rfl (lv_at hl 0 rfl) ?_
      refine zz_get C hK hP fl_Js_21 0 rfl rfl d_Js_meetNext_57 ?_
      refine lv_iload_n hx hb d_Js_meetNext_60 rfl (lv_at hl 3 rfl) ?_
      refine zz_ialdN C hK hP 4 rfl (j := i) (by omega) (by omega) d_Js_meetNext_61 ?_
      refine va_gets hx hb hZD hS hown (hts _ wd_fs_Js_28) (fun _ h9 => h9) d_Js_meetNext_62 ?_
      refine lv_iload_n hx hb d_Js_meetNext_65 rfl (lv_at hl 3 rfl) ?_
      refine zz_tabI C hTD hS (j := i) (by omega) (by decide) d_Js_meetNext_66 ?_
      refine lv_imul hx hb d_Js_meetNext_67 ?_
      refine zz_eqi (y := nI (jg_d x i * 10 ^ i)) (by rw [hV i hic]; exact pk_mul _ _) ?_
      refine lv_isub hx hb d_Js_meetNext_68 ?_
      refine zz_eqi (y := nI (x - jg_d x i * 10 ^ i)) (pk_sub (jg_d_mul_le x i)) ?_
      refine lv_iload_n hx hb d_Js_meetNext_69 rfl (lv_at hl 1 rfl) ?_
      refine lv_iload_n hx hb d_Js_meetNext_70 rfl (lv_at hl 3 rfl) ?_
      refine lv_iconst (v := (-1)) hx hb d_Js_meetNext_71 (by decide) ?_
      refine zz_eqi (y := nI 0 - 1) (by decide) ?_
      rw [show (F0 m 72 ls (.int (nI 0 - 1) :: .int (nI i) :: [.int (nI x), .int (nI (x - jg_d x i * 10 ^ i)), .ref g0])) = F0 m 72 ls (.int (nI 0 - 1) :: .int (nI (i + 1) - 1) :: [.int (nI x), .int (nI (x - jg_d x i * 10 ^ i)), .ref g0]) from by rw [nI_pred i]]
      refine zz_goi (wr := [(h0, .inr (1, [.ref b1, .ref b2, .ref b3, .ref b4, .int (nI jc)])), (b1, zI E 4 fS), (b2, zI E 4 fF), (b3, zI E 4 fW), (b4, zI E 4 fV), (g0, .inr (4, [.ref a1, .ref a2, .int (nI (jg_l2 jc sz x S1 i).2.length)])), (a1, zI E n fT), (a2, zI E n fQ)]) [] [0, 1, 2, 3, 4, 5, 6, 7] rfl rfl (by decide) (by decide) hA hP hD hS (zz_runS (wc := []) (As := [.int (nI (i + 1) - 1), .int (nI 0 - 1)]) (rest := [.int (nI x), .int (nI (x - jg_d x i * 10 ^ i)), .ref g0]) C (c_Js_codeOf l E (i + 1) 0 (by omega) (by omega)) ym_Js_codeOf wd_ml_Js_39 wd_st_Js_codeOf [] (by decide) rfl hA hK hst hP hD hS rfl hl.1 rfl (Nat.le_of_ble_eq_true rfl) ⟨Nat.le_of_ble_eq_true rfl, Nat.le_of_ble_eq_true rfl⟩ ⟨Nat.le_of_ble_eq_true rfl, Nat.le_of_ble_eq_true rfl⟩ d_Js_meetNext_72) (fun r_36 u H locs hw hP hD hS => ?_)
      have hP : va_P E.1 vwCl [(h0, .inr (1, [.ref b1, .ref b2, .ref b3, .ref b4, .int (nI jc)])), (b1, zI E 4 fS), (b2, zI E 4 fF), (b3, zI E 4 fW), (b4, zI E 4 fV), (g0, .inr (4, [.ref a1, .ref a2, .int (nI (jg_l2 jc sz x S1 i).2.length)])), (a1, zI E n fT), (a2, zI E n fQ)] H := hP
      have hD : va_D A [(h0, .inr (1, [.ref b1, .ref b2, .ref b3, .ref b4, .int (nI jc)])), (b1, zI E 4 fS), (b2, zI E 4 fF), (b3, zI E 4 fW), (b4, zI E 4 fV), (g0, .inr (4, [.ref a1, .ref a2, .int (nI (jg_l2 jc sz x S1 i).2.length)])), (a1, zI E n fT), (a2, zI E n fQ)] := hD
      subst hw
      refine zz_eqi (y := nI ((i + 1) * 8)) (rfl) ?_
      refine zz_gov (wr := [(h0, .inr (1, [.ref b1, .ref b2, .ref b3, .ref b4, .int (nI jc)])), (b1, zI E 4 fS), (b2, zI E 4 fF), (b3, zI E 4 fW), (b4, zI E 4 fV)]) [5, 6, 7] [0, 1, 2, 3, 4] rfl rfl (by decide) (by decide) hA hP hD hS (zz_runV (wc := [(g0, .inr (4, [.ref a1, .ref a2, .int (nI (jg_l2 jc sz x S1 i).2.length)])), (a1, zI E n fT), (a2, zI E n fQ)]) (As := [.int (nI (x - jg_d x i * 10 ^ i)), .int (nI x), .int (nI ((i + 1) * 8))]) (rest := []) C (c_Se_meet l E g0 a1 a2 n fT fQ (jg_l2 jc sz x S1 i) (x - jg_d x i * 10 ^ i) x ((i + 1) * 8) hn (Nat.lt_of_lt_of_le (jg_empt_lt (i := i) hG.1) hnc) hxn (by omega) hR hI.1) ym_Se_meet wd_ml_Js_43 wd_im_Se_meet wd_se_Se_meet [5, 6, 7] (by decide) rfl hA hK hst hP hD hS (ci := 4) (q0 := 0) rfl rfl rfl rfl hl.1 rfl (Nat.le_of_ble_eq_true rfl) ⟨Nat.le_of_ble_eq_true rfl, Nat.le_of_ble_eq_true rfl⟩ ⟨Nat.le_of_ble_eq_true rfl, Nat.le_of_ble_eq_true rfl⟩ d_Js_meetNext_75) (fun u_37 H locs hR hP hD hS => ?_)
      have hP : va_P E.1 vwCl [(h0, .inr (1, [.ref b1, .ref b2, .ref b3, .ref b4, .int (nI jc)])), (b1, zI E 4 fS), (b2, zI E 4 fF), (b3, zI E 4 fW), (b4, zI E 4 fV), (g0, .inr (4, [.ref a1, .ref a2, .int (nI (bfs_mt (jg_l2 jc sz x S1 i) x (x - jg_d x i * 10 ^ i, (i + 1) * 8)).2.length)])), (a1, zI E n u_37.1), (a2, zI E n u_37.2)] H := hP
      have hD : va_D A [(h0, .inr (1, [.ref b1, .ref b2, .ref b3, .ref b4, .int (nI jc)])), (b1, zI E 4 fS), (b2, zI E 4 fF), (b3, zI E 4 fW), (b4, zI E 4 fV), (g0, .inr (4, [.ref a1, .ref a2, .int (nI (bfs_mt (jg_l2 jc sz x S1 i) x (x - jg_d x i * 10 ^ i, (i + 1) * 8)).2.length)])), (a1, zI E n u_37.1), (a2, zI E n u_37.2)] := hD
      refine lv_iconst (v := 0) hx hb d_Js_meetNext_78 (by decide) ?_
      refine lv_istore (lv' := [(4, .int 0), (0, .ref h0), (1, .int (nI x)), (2, .ref g0), (3, .int (nI i))]) hx hb d_Js_meetNext_79 hl (by decide) rfl (fun ls hl => ?_)
      have hI2 : bfs_I n x (bfs_mt (jg_l2 jc sz x S1 i) x (x - jg_d x i * 10 ^ i, (i + 1) * 8)) := bfs_mt_I hI hn hxn (Nat.lt_of_lt_of_le (jg_empt_lt (i := i) hG.1) hnc) (show (i + 1) * 8 < 256 by omega)
      have hl := lv_sub (l' := [(0, .ref h0), (1, .int (nI x)), (2, .ref g0), (3, .int (nI i)), (4, .int (nI 0))]) hl [1, 2, 3, 4, 0] (rfl)
      refine lp_Js_meet3 hJ hG hn hnc hV hZD hTD hic (S0 := bfs_mt (jg_l2 jc sz x S1 i) x (x - jg_d x i * 10 ^ i, (i + 1) * 8)) C hA hK hst jc 0 u_37.1 u_37.2 (by omega) hR hI2 (fun fT fQ H locs ls hR hI hP hD hS hl => ?_) _ _ ls hP hD hS hl
      refine lv_iinc (v := nI (i + 1)) (lv' := [(3, .int (nI (i + 1))), (0, .ref h0), (1, .int (nI x)), (2, .ref g0)]) hx hb d_Js_meetNext_141 hl (k := 3) rfl (nI_1 _) (by decide) rfl (fun ls hl => ?_)
      refine lv_goto (tgt := 46) hx hb d_Js_meetNext_144 (by decide) ?_
      exact ih (i + 1) fT fQ (by omega) hR hI _ _ ls hP hD hS (lv_sub hl [1, 2, 3, 0] rfl)

set_option maxHeartbeats 4000000 in
set_option maxRecDepth 100000 in
theorem lp_Js_meet1 {p : Program} {l : Launch} {e : Env} {s : State} {m : MethodId} {below : List Frame} {meth : Method} {c : Code} {A : Nat → Prop}  {E : zG} {h0 b1 b2 b3 b4 jc : Nat} {fS fF fW fV : Nat → Int32} {sz fl : Nat → Nat} {g0 a1 a2 n : Nat} {st : (Nat → Nat) × List Nat} {x : Nat} (hJ : jg_ok jc sz fl fS fF) (hG : jg_good jc sz x) (hn : n ≤ 10000) (hnc : 10 ^ jc ≤ n) (hV : ∀ j, j < jc → fV j = nI (jg_d x j)) {tD : Nat} (hZD : va_Z "StatePuzzles$JugSet" "DIGIT" "[I" (.ref tD) A s s.heap) (hTD : va_T .int tD 4 (fun j => .int (nI (10 ^ j))) A s s.heap) (C : cx p s m #[.ref h0, .int (nI x), .ref g0] meth c b_Js_meetNext 6 y_Js_meetNext.cls none) (hA : ∀ q, s.heap.size ≤ q → A q) (hK : kt E s) (hst : stt A s s.heap) :
    ∀ (f i : Nat) (fT fQ : Nat → Int32) (_ : i + f = jc) (_ : bfs_RS n (jg_l1 sz x st i) fT fQ) (_ : bfs_I n x (jg_l1 sz x st i)) (H : Heap) (locs : List Loc) (ls : Array Slot), va_P E.1 vwCl [(h0, .inr (1, [.ref b1, .ref b2, .ref b3, .ref b4, .int (nI jc)])), (b1, zI E 4 fS), (b2, zI E 4 fF), (b3, zI E 4 fW), (b4, zI E 4 fV), (g0, .inr (4, [.ref a1, .ref a2, .int (nI (jg_l1 sz x st i).2.length)])), (a1, zI E n fT), (a2, zI E n fQ)] H → va_D A [(h0, .inr (1, [.ref b1, .ref b2, .ref b3, .ref b4, .int (nI jc)])), (b1, zI E 4 fS), (b2, zI E 4 fF), (b3, zI E 4 fW), (b4, zI E 4 fV), (g0, .inr (4, [.ref a1, .ref a2, .int (nI (jg_l1 sz x st i).2.length)])), (a1, zI E n fT), (a2, zI E n fQ)] → va_S A s.heap H locs → lv_has ls 6 [(0, .ref h0), (1, .int (nI x)), (2, .ref g0), (3, .int (nI i))] → W p l e (zR 1 23 0 0) s m #[.ref h0, .int (nI x), .ref g0] below meth c H locs 0 0 (MQ below ((zQv E (S := (Nat → Int32) × (Nat → Int32) × (Nat → Int32)) (fun u => bfs_RS n (jg_next jc sz x st) u.2.1 u.2.2) (fun u => [(h0, .inr (1, [.ref b1, .ref b2, .ref b3, .ref b4, .int (nI jc)])), (b1, zI E 4 fS), (b2, zI E 4 fF), (b3, zI E 4 fW), (b4, zI E 4 u.1), (g0, .inr (4, [.ref a1, .ref a2, .int (nI (jg_next jc sz x st).2.length)])), (a1, zI E n u.2.1), (a2, zI E n u.2.2)])) A) #[.ref h0, .int (nI x), .ref g0] s 0 0 A) (F0 m 7 ls []) := by
  obtain ⟨hx, hb, hr, hml, hown, hts, hlk⟩ := id C
  have hc := hJ.1
  have hxn : x < n := Nat.lt_of_lt_of_le hG.1 hnc
  intro f
  induction f with
  | zero =>
    intro i fT fQ hi hR hI H locs ls hP hD hS hl
    have hi : i = jc := by omega
    subst hi
    refine lv_iload_n hx hb d_Js_meetNext_7 rfl (lv_at hl 3 rfl) ?_
    refine lv_aload_n hx hb d_Js_meetNext_8 rfl (lv_at hl 0 rfl) ?_
    refine zz_get C hK hP fl_Js_24 0 rfl rfl d_Js_meetNext_9 ?_
    refine lv_icmp_ge (tgt := 44) hx hb d_Js_meetNext_12 (by decide) (fun c_39 => ?_) (fun c_39 => ?_)
    · refine lv_iconst (v := 0) hx hb d_Js_meetNext_44 (by decide) ?_
      refine lv_istore_n (lv' := [(3, .int 0), (0, .ref h0), (1, .int (nI x)), (2, .ref g0)]) hx hb d_Js_meetNext_45 rfl hl (by decide) rfl (fun ls hl => ?_)
      have hl := lv_sub (l' := [(0, .ref h0), (1, .int (nI x)), (2, .ref g0), (3, .int (nI 0))]) hl [1, 2, 3, 0] (rfl)
      exact lp_Js_meet2 hJ hG hn hnc hV hZD hTD rfl C hA hK hst i 0 fT fQ (by omega) hR hI _ _ ls hP hD hS hl
    · exact absurd (nI_le (Nat.le_refl _) (by omega)) c_39
  | succ f ih =>
    intro i fT fQ hi hR hI H locs ls hP hD hS hl
    have hic : i < jc := by omega
    have hq := hJ.2 i hic
    refine lv_iload_n hx hb d_Js_meetNext_7 rfl (lv_at hl 3 rfl) ?_
    refine lv_aload_n hx hb d_Js_meetNext_8 rfl (lv_at hl 0 rfl) ?_
    refine zz_get C hK hP fl_Js_24 0 rfl rfl d_Js_meetNext_9 ?_
    refine lv_icmp_ge (tgt := 44) hx hb d_Js_meetNext_12 (by decide) (fun c_40 => ?_) (fun c_40 => ?_)
    · exact absurd c_40 (nI_ge hic (by omega))
    · refine lv_aload_n hx hb d_Js_meetNext_15 rfl (lv_at hl 2 rfl) ?_
      refine lv_iload_n hx hb d_Js_meetNext_16 rfl (lv_at hl 1 rfl) ?_
      refine lv_aload_n hx hb d_Js_meetNext_17 rfl (lv_at hl 0 rfl) ?_
      refine lv_iload_n hx hb d_Js_meetNext_18 rfl (lv_at hl 3 rfl) ?_
      refine zz_goi (wr := [(g0, .inr (4, [.ref a1, .ref a2, .int (nI (jg_l1 sz x st i).2.length)])), (a1, zI E n fT), (a2, zI E n fQ)]) [0, 1, 2, 3, 4] [5, 6, 7] rfl rfl (by decide) (by decide) hA hP hD hS (zz_runV (wc := [(h0, .inr (1, [.ref b1, .ref b2, .ref b3, .ref b4, .int (nI jc)])), (b1, zI E 4 fS), (b2, zI E 4 fF), (b3, zI E 4 fW), (b4, zI E 4 fV)]) (As := [.int (nI i)]) (rest := [.int (nI x), .ref g0]) C (c_Js_roomIn l E h0 b1 b2 b3 b4 jc fS fF fW fV i (sz i) (jg_d x i) hic hc hq.1 (hV i hic) (hG.2 i hic)) ym_Js_roomIn wd_ml_Js_35 wd_im_Js_roomIn wd_se_Js_roomIn [0, 1, 2, 3, 4] (by decide) rfl hA hK hst hP hD hS (ci := 1) (q0 := 0) rfl rfl rfl rfl hl.1 rfl (Nat.le_of_ble_eq_true rfl) ⟨Nat.le_of_ble_eq_true rfl, Nat.le_of_ble_eq_true rfl⟩ ⟨Nat.le_of_ble_eq_true rfl, Nat.le_of_ble_eq_true rfl⟩ d_Js_meetNext_19) (fun r_41 u H locs hw hP hD hS => ?_)
      have hP : va_P E.1 vwCl [(g0, .inr (4, [.ref a1, .ref a2, .int (nI (jg_l1 sz x st i).2.length)])), (a1, zI E n fT), (a2, zI E n fQ), (h0, .inr (1, [.ref b1, .ref b2, .ref b3, .ref b4, .int (nI jc)])), (b1, zI E 4 fS), (b2, zI E 4 fF), (b3, zI E 4 fW), (b4, zI E 4 fV)] H := hP
      have hD : va_D A [(g0, .inr (4, [.ref a1, .ref a2, .int (nI (jg_l1 sz x st i).2.length)])), (a1, zI E n fT), (a2, zI E n fQ), (h0, .inr (1, [.ref b1, .ref b2, .ref b3, .ref b4, .int (nI jc)])), (b1, zI E 4 fS), (b2, zI E 4 fF), (b3, zI E 4 fW), (b4, zI E 4 fV)] := hD
      subst hw
      refine va_gets hx hb hZD hS hown (hts _ wd_fs_Js_28) (fun _ h9 => h9) d_Js_meetNext_22 ?_
      refine lv_iload_n hx hb d_Js_meetNext_25 rfl (lv_at hl 3 rfl) ?_
      refine zz_tabI C hTD hS (j := i) (by omega) (by decide) d_Js_meetNext_26 ?_
      refine lv_imul hx hb d_Js_meetNext_27 ?_
      refine zz_eqi (y := nI ((sz i - jg_d x i) * 10 ^ i)) (pk_mul _ _) ?_
      refine lv_iadd hx hb d_Js_meetNext_28 ?_
      refine zz_eqi (y := nI (x + (sz i - jg_d x i) * 10 ^ i)) (nI_add _ _) ?_
      refine lv_iload_n hx hb d_Js_meetNext_29 rfl (lv_at hl 1 rfl) ?_
      refine lv_iconst (v := (-1)) hx hb d_Js_meetNext_30 (by decide) ?_
      refine lv_iload_n hx hb d_Js_meetNext_31 rfl (lv_at hl 3 rfl) ?_
      refine zz_eqi (y := nI (i + 1) - 1) (nI_pred i).symm ?_
      rw [show (F0 m 32 ls (.int (nI (i + 1) - 1) :: .int (-1) :: [.int (nI x), .int (nI (x + (sz i - jg_d x i) * 10 ^ i)), .ref g0])) = F0 m 32 ls (.int (nI (i + 1) - 1) :: .int (nI 0 - 1) :: [.int (nI x), .int (nI (x + (sz i - jg_d x i) * 10 ^ i)), .ref g0]) from rfl]
      refine zz_goi (wr := [(g0, .inr (4, [.ref a1, .ref a2, .int (nI (jg_l1 sz x st i).2.length)])), (a1, zI E n fT), (a2, zI E n fQ), (h0, .inr (1, [.ref b1, .ref b2, .ref b3, .ref b4, .int (nI jc)])), (b1, zI E 4 fS), (b2, zI E 4 fF), (b3, zI E 4 fW), (b4, zI E 4 fV)]) [] [0, 1, 2, 3, 4, 5, 6, 7] rfl rfl (by decide) (by decide) hA hP hD hS (zz_runS (wc := []) (As := [.int (nI 0 - 1), .int (nI (i + 1) - 1)]) (rest := [.int (nI x), .int (nI (x + (sz i - jg_d x i) * 10 ^ i)), .ref g0]) C (c_Js_codeOf l E 0 (i + 1) (by omega) (by omega)) ym_Js_codeOf wd_ml_Js_39 wd_st_Js_codeOf [] (by decide) rfl hA hK hst hP hD hS rfl hl.1 rfl (Nat.le_of_ble_eq_true rfl) ⟨Nat.le_of_ble_eq_true rfl, Nat.le_of_ble_eq_true rfl⟩ ⟨Nat.le_of_ble_eq_true rfl, Nat.le_of_ble_eq_true rfl⟩ d_Js_meetNext_32) (fun r_42 u H locs hw hP hD hS => ?_)
      have hP : va_P E.1 vwCl [(g0, .inr (4, [.ref a1, .ref a2, .int (nI (jg_l1 sz x st i).2.length)])), (a1, zI E n fT), (a2, zI E n fQ), (h0, .inr (1, [.ref b1, .ref b2, .ref b3, .ref b4, .int (nI jc)])), (b1, zI E 4 fS), (b2, zI E 4 fF), (b3, zI E 4 fW), (b4, zI E 4 fV)] H := hP
      have hD : va_D A [(g0, .inr (4, [.ref a1, .ref a2, .int (nI (jg_l1 sz x st i).2.length)])), (a1, zI E n fT), (a2, zI E n fQ), (h0, .inr (1, [.ref b1, .ref b2, .ref b3, .ref b4, .int (nI jc)])), (b1, zI E 4 fS), (b2, zI E 4 fF), (b3, zI E 4 fW), (b4, zI E 4 fV)] := hD
      subst hw
      refine zz_eqi (y := nI (i + 1)) (by rw [Nat.zero_mul, Nat.zero_add]) ?_
      refine zz_gov (wr := [(h0, .inr (1, [.ref b1, .ref b2, .ref b3, .ref b4, .int (nI jc)])), (b1, zI E 4 fS), (b2, zI E 4 fF), (b3, zI E 4 fW), (b4, zI E 4 fV)]) [0, 1, 2] [3, 4, 5, 6, 7] rfl rfl (by decide) (by decide) hA hP hD hS (zz_runV (wc := [(g0, .inr (4, [.ref a1, .ref a2, .int (nI (jg_l1 sz x st i).2.length)])), (a1, zI E n fT), (a2, zI E n fQ)]) (As := [.int (nI (x + (sz i - jg_d x i) * 10 ^ i)), .int (nI x), .int (nI (i + 1))]) (rest := []) C (c_Se_meet l E g0 a1 a2 n fT fQ (jg_l1 sz x st i) (x + (sz i - jg_d x i) * 10 ^ i) x (i + 1) hn (Nat.lt_of_lt_of_le (jg_fill_lt hc hic hG.1 hq.2.2.1 (hG.2 i hic)) hnc) hxn (by omega) hR hI.1) ym_Se_meet wd_ml_Js_43 wd_im_Se_meet wd_se_Se_meet [0, 1, 2] (by decide) rfl hA hK hst hP hD hS (ci := 4) (q0 := 0) rfl rfl rfl rfl hl.1 rfl (Nat.le_of_ble_eq_true rfl) ⟨Nat.le_of_ble_eq_true rfl, Nat.le_of_ble_eq_true rfl⟩ ⟨Nat.le_of_ble_eq_true rfl, Nat.le_of_ble_eq_true rfl⟩ d_Js_meetNext_35) (fun u_43 H locs hR hP hD hS => ?_)
      have hP : va_P E.1 vwCl [(h0, .inr (1, [.ref b1, .ref b2, .ref b3, .ref b4, .int (nI jc)])), (b1, zI E 4 fS), (b2, zI E 4 fF), (b3, zI E 4 fW), (b4, zI E 4 fV), (g0, .inr (4, [.ref a1, .ref a2, .int (nI (bfs_mt (jg_l1 sz x st i) x (x + (sz i - jg_d x i) * 10 ^ i, i + 1)).2.length)])), (a1, zI E n u_43.1), (a2, zI E n u_43.2)] H := hP
      have hD : va_D A [(h0, .inr (1, [.ref b1, .ref b2, .ref b3, .ref b4, .int (nI jc)])), (b1, zI E 4 fS), (b2, zI E 4 fF), (b3, zI E 4 fW), (b4, zI E 4 fV), (g0, .inr (4, [.ref a1, .ref a2, .int (nI (bfs_mt (jg_l1 sz x st i) x (x + (sz i - jg_d x i) * 10 ^ i, i + 1)).2.length)])), (a1, zI E n u_43.1), (a2, zI E n u_43.2)] := hD
      refine lv_iinc (v := nI (i + 1)) (lv' := [(3, .int (nI (i + 1))), (0, .ref h0), (1, .int (nI x)), (2, .ref g0)]) hx hb d_Js_meetNext_38 hl (k := 3) rfl (nI_1 _) (by decide) rfl (fun ls hl => ?_)
      refine lv_goto (tgt := 7) hx hb d_Js_meetNext_41 (by decide) ?_
      have hI2 : bfs_I n x (jg_l1 sz x st (i + 1)) := bfs_mt_I hI hn hxn (Nat.lt_of_lt_of_le (jg_fill_lt hc hic hG.1 hq.2.2.1 (hG.2 i hic)) hnc) (show i + 1 < 256 by omega)
      exact ih (i + 1) u_43.1 u_43.2 (by omega) hR hI2 _ _ ls hP hD hS (lv_sub hl [1, 2, 3, 0] rfl)

set_option maxHeartbeats 4000000 in
set_option maxRecDepth 100000 in
theorem c_Js_meetNext (l : Launch) (E : zG) (h0 b1 b2 b3 b4 jc : Nat) (fS fF fW fV : Nat → Int32) (sz fl : Nat → Nat) (g0 a1 a2 n : Nat) (fT fQ : Nat → Int32) (st : (Nat → Nat) × List Nat) (x : Nat) (hJ : jg_ok jc sz fl fS fF) (hG : jg_good jc sz x) (hn : n ≤ 10000) (hnc : 10 ^ jc ≤ n) (hR : bfs_RS n st fT fQ) (hI : bfs_I n x st) : zMet l y_Js_meetNext b_Js_meetNext 6 none 1 23 0 0 E [.ref h0, .int (nI x), .ref g0] [(h0, .inr (1, [.ref b1, .ref b2, .ref b3, .ref b4, .int (nI jc)])), (b1, zI E 4 fS), (b2, zI E 4 fF), (b3, zI E 4 fW), (b4, zI E 4 fV), (g0, .inr (4, [.ref a1, .ref a2, .int (nI st.2.length)])), (a1, zI E n fT), (a2, zI E n fQ)] (zQv E (S := (Nat → Int32) × (Nat → Int32) × (Nat → Int32)) (fun u => bfs_RS n (jg_next jc sz x st) u.2.1 u.2.2) (fun u => [(h0, .inr (1, [.ref b1, .ref b2, .ref b3, .ref b4, .int (nI jc)])), (b1, zI E 4 fS), (b2, zI E 4 fF), (b3, zI E 4 fW), (b4, zI E 4 u.1), (g0, .inr (4, [.ref a1, .ref a2, .int (nI (jg_next jc sz x st).2.length)])), (a1, zI E n u.2.1), (a2, zI E n u.2.2)])) := by
  refine zz_met (by decide +kernel) (Nat.le_of_ble_eq_true rfl) ?_
  intro p e s m below meth c A ls C hin hA hK hst hP hD hl
  obtain ⟨hx, hb, hr, hml, hown, hts, hlk⟩ := id C
  have hS : va_S A s.heap s.heap [] := va_S.rf
  have hl : lv_has ls 6 [(0, .ref h0), (1, .int (nI x)), (2, .ref g0)] := hl
  obtain ⟨tD, hZD, hTD⟩ := id hst
  have hx0 : x < 10000 := by have := hG.1; omega
  refine lv_aload_n hx hb d_Js_meetNext_0 rfl (lv_at hl 0 rfl) ?_
  refine lv_iload_n hx hb d_Js_meetNext_1 rfl (lv_at hl 1 rfl) ?_
  refine zz_gov (wr := [(g0, .inr (4, [.ref a1, .ref a2, .int (nI st.2.length)])), (a1, zI E n fT), (a2, zI E n fQ)]) [0, 1, 2, 3, 4] [5, 6, 7] rfl rfl (by decide) (by decide) hA hP hD hS (zz_runV (wc := [(h0, .inr (1, [.ref b1, .ref b2, .ref b3, .ref b4, .int (nI jc)])), (b1, zI E 4 fS), (b2, zI E 4 fF), (b3, zI E 4 fW), (b4, zI E 4 fV)]) (As := [.int (nI x)]) (rest := []) C (c_Js_readLevels l E h0 b1 b2 b3 b4 jc fS fF fW fV x hJ.1 hx0) ym_Js_readLevels wd_ml_Js_31 wd_im_Js_readLevels wd_se_Js_readLevels [0, 1, 2, 3, 4] (by decide) rfl hA hK hst hP hD hS (ci := 1) (q0 := 0) rfl rfl rfl rfl hl.1 rfl (Nat.le_of_ble_eq_true rfl) ⟨Nat.le_of_ble_eq_true rfl, Nat.le_of_ble_eq_true rfl⟩ ⟨Nat.le_of_ble_eq_true rfl, Nat.le_of_ble_eq_true rfl⟩ d_Js_meetNext_2) (fun u H locs hw hP hD hS => ?_)
  have hP : va_P E.1 vwCl [(g0, .inr (4, [.ref a1, .ref a2, .int (nI st.2.length)])), (a1, zI E n fT), (a2, zI E n fQ), (h0, .inr (1, [.ref b1, .ref b2, .ref b3, .ref b4, .int (nI jc)])), (b1, zI E 4 fS), (b2, zI E 4 fF), (b3, zI E 4 fW), (b4, zI E 4 u)] H := hP
  have hD : va_D A [(g0, .inr (4, [.ref a1, .ref a2, .int (nI st.2.length)])), (a1, zI E n fT), (a2, zI E n fQ), (h0, .inr (1, [.ref b1, .ref b2, .ref b3, .ref b4, .int (nI jc)])), (b1, zI E 4 fS), (b2, zI E 4 fF), (b3, zI E 4 fW), (b4, zI E 4 u)] := hD
  have hP := hP.sub (ws' := [(h0, .inr (1, [.ref b1, .ref b2, .ref b3, .ref b4, .int (nI jc)])), (b1, zI E 4 fS), (b2, zI E 4 fF), (b3, zI E 4 fW), (b4, zI E 4 u), (g0, .inr (4, [.ref a1, .ref a2, .int (nI st.2.length)])), (a1, zI E n fT), (a2, zI E n fQ)]) [3, 4, 5, 6, 7, 0, 1, 2] rfl
  have hD := hD.sub (ws' := [(h0, .inr (1, [.ref b1, .ref b2, .ref b3, .ref b4, .int (nI jc)])), (b1, zI E 4 fS), (b2, zI E 4 fF), (b3, zI E 4 fW), (b4, zI E 4 u), (g0, .inr (4, [.ref a1, .ref a2, .int (nI st.2.length)])), (a1, zI E n fT), (a2, zI E n fQ)]) [3, 4, 5, 6, 7, 0, 1, 2] (by decide) rfl
  refine lv_iconst (v := 0) hx hb d_Js_meetNext_5 (by decide) ?_
  refine lv_istore_n (lv' := [(3, .int 0), (0, .ref h0), (1, .int (nI x)), (2, .ref g0)]) hx hb d_Js_meetNext_6 rfl hl (by decide) rfl (fun ls hl => ?_)
  have hl := lv_sub (l' := [(0, .ref h0), (1, .int (nI x)), (2, .ref g0), (3, .int (nI 0))]) hl [1, 2, 3, 0] (rfl)
  exact lp_Js_meet1 hJ hG hn hnc hw hZD hTD C hA hK hst jc 0 fT fQ (by omega) hR hI _ _ ls hP hD hS hl
