set_option maxHeartbeats 4000000 in
set_option maxRecDepth 100000 in
theorem c_Rt_init (l : Launch) (E : zG) (h0 : Nat) : zMet l y_Rt_init b_Rt_init 1 none 1 20 1 100 E [.ref h0] [(h0, .inr (3, [.null, .int 0]))] (zQv E (S := Nat) (fun _ => True) (fun u => [(h0, .inr (3, [.ref u, .int 0])), (u, zI E 100 (fun _ => 0))])) := by
  refine zz_met (by decide +kernel) (Nat.le_of_ble_eq_true rfl) ?_
  intro p e s m below meth c A ls C hin hA hK hst hP hD hl
  obtain ⟨hx, hb, hr, hml, hown, hts, hlk⟩ := id C
  have hS : va_S A s.heap s.heap [] := va_S.rf
  have hl : lv_has ls 1 [(0, .ref h0)] := hl
  refine lv_aload_n hx hb d_Rt_init_0 rfl (lv_at hl 0 rfl) ?_
  refine zz_oi C wd_ml_Rt_3 wd_im_obj wd_cd_obj hl.1 (Nat.le_of_ble_eq_true rfl) (Nat.le_of_ble_eq_true rfl) d_Rt_init_1 ?_
  refine lv_aload_n hx hb d_Rt_init_4 rfl (lv_at hl 0 rfl) ?_
  refine lv_bipush (v := 100) hx hb d_Rt_init_5 (by decide) ?_
  refine zz_eqi (show (100 : Int32) = nI 100 from rfl) ?_
  refine zz_newI C hK hP hD hS hA (by decide) wd_ac_I (Nat.le_of_ble_eq_true rfl) (Nat.le_of_ble_eq_true rfl) d_Rt_init_7 (fun q_1 H hP hD hS => ?_)
  have hP : va_P E.1 vwCl [(h0, .inr (3, [.null, .int 0])), (q_1, zI E 100 (fun _ => 0))] H := hP
  have hD : va_D A [(h0, .inr (3, [.null, .int 0])), (q_1, zI E 100 (fun _ => 0))] := hD
  refine zz_putF C hin hK hP hD hS fl_Rt_11 (fun q h => by cases h; rfl) 0 rfl rfl rfl (Nat.le_of_ble_eq_true rfl) d_Rt_init_9 (fun H locs hP hD hS => ?_)
  have hP : va_P E.1 vwCl [(h0, .inr (3, [.ref q_1, .int 0])), (q_1, zI E 100 (fun _ => 0))] H := hP
  have hD : va_D A [(h0, .inr (3, [.ref q_1, .int 0])), (q_1, zI E 100 (fun _ => 0))] := hD
  exact zz_retv C hS q_1 (trivial) hP hD d_Rt_init_12

set_option maxHeartbeats 4000000 in
set_option maxRecDepth 100000 in
theorem c_Rt_add (l : Launch) (E : zG) (h0 d1 k : Nat) (fU : Nat → Int32) (x : Int32) (hk : k ≤ 100) : zMet l y_Rt_add b_Rt_add 2 (some .boolean) 0 0 0 0 E [.ref h0, .int x] [(h0, .inr (3, [.ref d1, .int (nI k)])), (d1, zI E 100 fU)] (zQi E (S := (Nat → Int32) × Nat) (fun r u => (¬ x < 0 ∧ ¬ 255 < x ∧ nI k < 100 → r = 1 ∧ u = (upd fU k x, k + 1)) ∧ (¬ (¬ x < 0 ∧ ¬ 255 < x ∧ nI k < 100) → r = 0 ∧ u = (fU, k))) (fun u => [(h0, .inr (3, [.ref d1, .int (nI u.2)])), (d1, zI E 100 u.1)])) := by
  refine zz_met (by decide +kernel) (Nat.le_of_ble_eq_true rfl) ?_
  intro p e s m below meth c A ls C hin hA hK hst hP hD hl
  obtain ⟨hx, hb, hr, hml, hown, hts, hlk⟩ := id C
  have hS : va_S A s.heap s.heap [] := va_S.rf
  have hl : lv_has ls 2 [(0, .ref h0), (1, .int x)] := hl
  refine lv_iload_n hx hb d_Rt_add_0 rfl (lv_at hl 1 rfl) ?_
  refine lv_if_lt (tgt := 20) hx hb d_Rt_add_1 (by decide) (fun c_2 => ?_) (fun c_2 => ?_)
  · refine lv_iconst (v := 0) hx hb d_Rt_add_20 (by decide) ?_
    exact zz_reti C (rfl) hS (fU, k) (⟨fun h => absurd h (by intro h; exact h.1 c_2), fun _ => ⟨rfl, rfl⟩⟩) hP hD d_Rt_add_21
  · refine lv_iload_n hx hb d_Rt_add_4 rfl (lv_at hl 1 rfl) ?_
    refine lv_sipush (v := 255) hx hb d_Rt_add_5 (by decide) ?_
    refine lv_icmp_gt (tgt := 20) hx hb d_Rt_add_8 (by decide) (fun c_3 => ?_) (fun c_3 => ?_)
    · refine lv_iconst (v := 0) hx hb d_Rt_add_20 (by decide) ?_
      exact zz_reti C (rfl) hS (fU, k) (⟨fun h => absurd h (by intro h; exact h.2.1 c_3), fun _ => ⟨rfl, rfl⟩⟩) hP hD d_Rt_add_21
    · refine lv_aload_n hx hb d_Rt_add_11 rfl (lv_at hl 0 rfl) ?_
      refine zz_get C hK hP fl_Rt_15 0 rfl rfl d_Rt_add_12 ?_
      refine lv_bipush (v := 100) hx hb d_Rt_add_15 (by decide) ?_
      refine lv_icmp_lt (tgt := 22) hx hb d_Rt_add_17 (by decide) (fun c_4 => ?_) (fun c_4 => ?_)
      · refine lv_aload_n hx hb d_Rt_add_22 rfl (lv_at hl 0 rfl) ?_
        refine zz_get C hK hP fl_Rt_11 0 rfl rfl d_Rt_add_23 ?_
        refine lv_aload_n hx hb d_Rt_add_26 rfl (lv_at hl 0 rfl) ?_
        refine zz_get C hK hP fl_Rt_15 0 rfl rfl d_Rt_add_27 ?_
        refine lv_iload_n hx hb d_Rt_add_30 rfl (lv_at hl 1 rfl) ?_
        have hk1 : k < 100 := zz_ltl (n := 100) c_4 (by omega)
        refine zz_iastN C hK hP hD hS 1 rfl (j := k) (hk1) (by omega) d_Rt_add_31 (fun H locs hP hD hS => ?_)
        have hP : va_P E.1 vwCl [(h0, .inr (3, [.ref d1, .int (nI k)])), (d1, zI E 100 (upd fU k x))] H := hP
        have hD : va_D A [(h0, .inr (3, [.ref d1, .int (nI k)])), (d1, zI E 100 (upd fU k x))] := hD
        refine lv_aload_n hx hb d_Rt_add_32 rfl (lv_at hl 0 rfl) ?_
        refine lv_dup hx hb d_Rt_add_33 rfl ?_
        refine zz_get C hK hP fl_Rt_15 0 rfl rfl d_Rt_add_34 ?_
        refine lv_iconst (v := 1) hx hb d_Rt_add_37 (by decide) ?_
        refine lv_iadd hx hb d_Rt_add_38 ?_
        refine zz_eqi (y := nI (k + 1)) (nI_1 _) ?_
        refine zz_put C hK hP hD hS fl_Rt_15 0 rfl rfl rfl (Nat.le_of_ble_eq_true rfl) d_Rt_add_39 (fun H locs hP hD hS => ?_)
        have hP : va_P E.1 vwCl [(h0, .inr (3, [.ref d1, .int (nI (k + 1))])), (d1, zI E 100 (upd fU k x))] H := hP
        have hD : va_D A [(h0, .inr (3, [.ref d1, .int (nI (k + 1))])), (d1, zI E 100 (upd fU k x))] := hD
        refine lv_iconst (v := 1) hx hb d_Rt_add_42 (by decide) ?_
        exact zz_reti C (rfl) hS (upd fU k x, k + 1) (⟨fun _ => ⟨rfl, rfl⟩, fun h => absurd ⟨c_2, c_3, c_4⟩ h⟩) hP hD d_Rt_add_43
      · refine lv_iconst (v := 0) hx hb d_Rt_add_20 (by decide) ?_
        exact zz_reti C (rfl) hS (fU, k) (⟨fun h => absurd h (by intro h; exact c_4 h.2.2), fun _ => ⟨rfl, rfl⟩⟩) hP hD d_Rt_add_21

set_option maxHeartbeats 4000000 in
set_option maxRecDepth 100000 in
theorem c_Rt_forget (l : Launch) (E : zG) (h0 d1 k : Nat) (fU : Nat → Int32) : zMet l y_Rt_forget b_Rt_forget 1 none 0 0 0 0 E [.ref h0] [(h0, .inr (3, [.ref d1, .int (nI k)])), (d1, zI E 100 fU)] (zQv E (S := Unit) (fun _ => True) (fun _ => [(h0, .inr (3, [.ref d1, .int 0])), (d1, zI E 100 fU)])) := by
  refine zz_met (by decide +kernel) (Nat.le_of_ble_eq_true rfl) ?_
  intro p e s m below meth c A ls C hin hA hK hst hP hD hl
  obtain ⟨hx, hb, hr, hml, hown, hts, hlk⟩ := id C
  have hS : va_S A s.heap s.heap [] := va_S.rf
  have hl : lv_has ls 1 [(0, .ref h0)] := hl
  refine lv_aload_n hx hb d_Rt_forget_0 rfl (lv_at hl 0 rfl) ?_
  refine lv_iconst (v := 0) hx hb d_Rt_forget_1 (by decide) ?_
  refine zz_put C hK hP hD hS fl_Rt_15 0 rfl rfl rfl (Nat.le_of_ble_eq_true rfl) d_Rt_forget_2 (fun H locs hP hD hS => ?_)
  have hP : va_P E.1 vwCl [(h0, .inr (3, [.ref d1, .int 0])), (d1, zI E 100 fU)] H := hP
  have hD : va_D A [(h0, .inr (3, [.ref d1, .int 0])), (d1, zI E 100 fU)] := hD
  exact zz_retv C hS () (trivial) hP hD d_Rt_forget_5

set_option maxHeartbeats 4000000 in
set_option maxRecDepth 100000 in
theorem c_Rt_unitAt (l : Launch) (E : zG) (h0 d1 k : Nat) (fU : Nat → Int32) (j : Nat) (hk : k ≤ 100) (hj : j < 1000) : zMet l y_Rt_unitAt b_Rt_unitAt 2 (some .int) 0 0 0 0 E [.ref h0, .int (nI j)] [(h0, .inr (3, [.ref d1, .int (nI k)])), (d1, zI E 100 fU)] (zQi E (S := Unit) (fun r _ => r = rt_u fU k j) (fun _ => [(h0, .inr (3, [.ref d1, .int (nI k)])), (d1, zI E 100 fU)])) := by
  refine zz_met (by decide +kernel) (Nat.le_of_ble_eq_true rfl) ?_
  intro p e s m below meth c A ls C hin hA hK hst hP hD hl
  obtain ⟨hx, hb, hr, hml, hown, hts, hlk⟩ := id C
  have hS : va_S A s.heap s.heap [] := va_S.rf
  have hl : lv_has ls 2 [(0, .ref h0), (1, .int (nI j))] := hl
  refine lv_iload_n hx hb d_Rt_unitAt_0 rfl (lv_at hl 1 rfl) ?_
  refine lv_if_lt (tgt := 21) hx hb d_Rt_unitAt_1 (by decide) (fun c_5 => ?_) (fun c_5 => ?_)
  · exact absurd c_5 (nI_pos (by omega))
  · refine lv_iload_n hx hb d_Rt_unitAt_4 rfl (lv_at hl 1 rfl) ?_
    refine lv_aload_n hx hb d_Rt_unitAt_5 rfl (lv_at hl 0 rfl) ?_
    refine zz_get C hK hP fl_Rt_15 0 rfl rfl d_Rt_unitAt_6 ?_
    refine lv_icmp_ge (tgt := 21) hx hb d_Rt_unitAt_9 (by decide) (fun c_6 => ?_) (fun c_6 => ?_)
    · refine lv_iconst (v := (-1)) hx hb d_Rt_unitAt_21 (by decide) ?_
      exact zz_reti C (rfl) hS () ((if_neg (fun h => absurd c_6 (nI_ge h (by omega)))).symm) hP hD d_Rt_unitAt_22
    · have hjk : j < k := zz_ltc c_6 (by omega)
      refine lv_aload_n hx hb d_Rt_unitAt_12 rfl (lv_at hl 0 rfl) ?_
      refine zz_get C hK hP fl_Rt_11 0 rfl rfl d_Rt_unitAt_13 ?_
      refine lv_iload_n hx hb d_Rt_unitAt_16 rfl (lv_at hl 1 rfl) ?_
      refine zz_ialdN C hK hP 1 rfl (j := j) (by omega) (by omega) d_Rt_unitAt_17 ?_
      refine lv_goto (tgt := 22) hx hb d_Rt_unitAt_18 (by decide) ?_
      exact zz_reti C (rfl) hS () ((if_pos hjk).symm) hP hD d_Rt_unitAt_22

set_option maxHeartbeats 4000000 in
set_option maxRecDepth 100000 in
theorem lp_Rt_readThings {p : Program} {l : Launch} {e : Env} {s : State} {m : MethodId} {below : List Frame} {meth : Method} {c : Code} {A : Nat → Prop}  {E : zG} {h0 d1 k : Nat} {fU : Nat → Int32} {r0 c1 c2 tn : Nat} {fL fN : Nat → Int32} {bo : Int32} (hk : k ≤ 100) (C : cx p s m #[.ref h0, .ref r0] meth c b_Rt_readThings 3 y_Rt_readThings.cls (some .int)) (hA : ∀ q, s.heap.size ≤ q → A q) (hK : kt E s) (hst : stt A s s.heap) :
    ∀ (f p0 : Nat) (gL : Nat → Int32) (t : Nat) (_ : p0 + f = 100) (_ : rt_things (rt_u fU k) f p0 (gL, t) = rt_things (rt_u fU k) 100 0 (fL, tn)) (H : Heap) (locs : List Loc) (ls : Array Slot), va_P E.1 vwCl [(h0, .inr (3, [.ref d1, .int (nI k)])), (d1, zI E 100 fU), (r0, .inr (2, [.ref c1, .ref c2, .int (nI t), .int bo])), (c1, zI E 8 gL), (c2, zI E 8 fN)] H → va_D A [(h0, .inr (3, [.ref d1, .int (nI k)])), (d1, zI E 100 fU), (r0, .inr (2, [.ref c1, .ref c2, .int (nI t), .int bo])), (c1, zI E 8 gL), (c2, zI E 8 fN)] → va_S A s.heap H locs → lv_has ls 3 [(0, .ref h0), (1, .ref r0), (2, .int (nI p0))] → W p l e (zR 1 22 0 0) s m #[.ref h0, .ref r0] below meth c H locs 0 0 (MQ below ((zQi E (S := (Nat → Int32) × Nat) (fun r u => r = nI (rt_things (rt_u fU k) 100 0 (fL, tn)).1 ∧ u = (rt_things (rt_u fU k) 100 0 (fL, tn)).2) (fun u => [(h0, .inr (3, [.ref d1, .int (nI k)])), (d1, zI E 100 fU), (r0, .inr (2, [.ref c1, .ref c2, .int (nI u.2), .int bo])), (c1, zI E 8 u.1), (c2, zI E 8 fN)])) A) #[.ref h0, .ref r0] s 0 0 A) (F0 m 2 ls []) := by
  obtain ⟨hx, hb, hr, hml, hown, hts, hlk⟩ := id C
  intro f
  induction f with
  | zero =>
    intro p0 gL t hi hgo H locs ls hP hD hS hl
    have hi : p0 = 100 := by omega
    subst hi
    refine lv_iload_n hx hb d_Rt_readThings_2 rfl (lv_at hl 2 rfl) ?_
    refine lv_bipush (v := 100) hx hb d_Rt_readThings_3 (by decide) ?_
    refine lv_icmp_ge (tgt := 28) hx hb d_Rt_readThings_5 (by decide) (fun c_7 => ?_) (fun c_7 => ?_)
    · refine lv_bipush (v := 100) hx hb d_Rt_readThings_28 (by decide) ?_
      exact zz_reti C (rfl) hS (gL, t) (by rw [← hgo]; exact ⟨rfl, rfl⟩) hP hD d_Rt_readThings_30
    · exact absurd (nI_le (b := 100) (Nat.le_refl _) (by decide)) c_7
  | succ f ih =>
    intro p0 gL t hi hgo H locs ls hP hD hS hl
    refine lv_iload_n hx hb d_Rt_readThings_2 rfl (lv_at hl 2 rfl) ?_
    refine lv_bipush (v := 100) hx hb d_Rt_readThings_3 (by decide) ?_
    refine lv_icmp_ge (tgt := 28) hx hb d_Rt_readThings_5 (by decide) (fun c_8 => ?_) (fun c_8 => ?_)
    · exact absurd c_8 (nI_ge (b := 100) (by omega) (by decide))
    · refine lv_aload_n hx hb d_Rt_readThings_8 rfl (lv_at hl 1 rfl) ?_
      refine lv_aload_n hx hb d_Rt_readThings_9 rfl (lv_at hl 0 rfl) ?_
      refine lv_iload_n hx hb d_Rt_readThings_10 rfl (lv_at hl 2 rfl) ?_
      refine zz_goi (wr := [(r0, .inr (2, [.ref c1, .ref c2, .int (nI t), .int bo])), (c1, zI E 8 gL), (c2, zI E 8 fN)]) [0, 1] [2, 3, 4] rfl rfl (by decide) (by decide) hA hP hD hS (zz_runV (wc := [(h0, .inr (3, [.ref d1, .int (nI k)])), (d1, zI E 100 fU)]) (As := [.int (nI p0)]) (rest := [.ref r0]) C (c_Rt_unitAt l E h0 d1 k fU p0 hk (by omega)) ym_Rt_unitAt wd_ml_Rt_28 wd_im_Rt_unitAt wd_se_Rt_unitAt [0, 1] (by decide) rfl hA hK hst hP hD hS (ci := 3) (q0 := 0) rfl rfl rfl rfl hl.1 rfl (Nat.le_of_ble_eq_true rfl) ⟨Nat.le_of_ble_eq_true rfl, Nat.le_of_ble_eq_true rfl⟩ ⟨Nat.le_of_ble_eq_true rfl, Nat.le_of_ble_eq_true rfl⟩ d_Rt_readThings_11) (fun r_9 u H locs hw hP hD hS => ?_)
      have hP : va_P E.1 vwCl [(r0, .inr (2, [.ref c1, .ref c2, .int (nI t), .int bo])), (c1, zI E 8 gL), (c2, zI E 8 fN), (h0, .inr (3, [.ref d1, .int (nI k)])), (d1, zI E 100 fU)] H := hP
      have hD : va_D A [(r0, .inr (2, [.ref c1, .ref c2, .int (nI t), .int bo])), (c1, zI E 8 gL), (c2, zI E 8 fN), (h0, .inr (3, [.ref d1, .int (nI k)])), (d1, zI E 100 fU)] := hD
      subst hw
      have hP := hP.sub (ws' := [(h0, .inr (3, [.ref d1, .int (nI k)])), (d1, zI E 100 fU), (r0, .inr (2, [.ref c1, .ref c2, .int (nI t), .int bo])), (c1, zI E 8 gL), (c2, zI E 8 fN)]) [3, 4, 0, 1, 2] rfl
      have hD := hD.sub (ws' := [(h0, .inr (3, [.ref d1, .int (nI k)])), (d1, zI E 100 fU), (r0, .inr (2, [.ref c1, .ref c2, .int (nI t), .int bo])), (c1, zI E 8 gL), (c2, zI E 8 fN)]) [3, 4, 0, 1, 2] (by decide) rfl
      refine zz_goi (wr := [(h0, .inr (3, [.ref d1, .int (nI k)])), (d1, zI E 100 fU)]) [2, 3, 4] [0, 1] rfl rfl (by decide) (by decide) hA hP hD hS (zz_runV (wc := [(r0, .inr (2, [.ref c1, .ref c2, .int (nI t), .int bo])), (c1, zI E 8 gL), (c2, zI E 8 fN)]) (As := [.int (rt_u fU k p0)]) (rest := []) C (c_Rv_addThing l E r0 c1 c2 t gL fN bo (rt_u fU k p0)) ym_Rv_addThing wd_ml_Rt_43 wd_im_Rv_addThing wd_se_Rv_addThing [2, 3, 4] (by decide) rfl hA hK hst hP hD hS (ci := 2) (q0 := 0) rfl rfl rfl rfl hl.1 rfl (Nat.le_of_ble_eq_true rfl) ⟨Nat.le_of_ble_eq_true rfl, Nat.le_of_ble_eq_true rfl⟩ ⟨Nat.le_of_ble_eq_true rfl, Nat.le_of_ble_eq_true rfl⟩ d_Rt_readThings_14) (fun r1 u1 H locs hw hP hD hS => ?_)
      have hP : va_P E.1 vwCl [(h0, .inr (3, [.ref d1, .int (nI k)])), (d1, zI E 100 fU), (r0, .inr (2, [.ref c1, .ref c2, .int (nI u1.2), .int bo])), (c1, zI E 8 u1.1), (c2, zI E 8 fN)] H := hP
      have hD : va_D A [(h0, .inr (3, [.ref d1, .int (nI k)])), (d1, zI E 100 fU), (r0, .inr (2, [.ref c1, .ref c2, .int (nI u1.2), .int bo])), (c1, zI E 8 u1.1), (c2, zI E 8 fN)] := hD
      refine lv_if_ne (tgt := 22) hx hb d_Rt_readThings_17 (by decide) (fun c_10 => ?_) (fun c_10 => ?_)
      · have hok : rv_addok gL (rt_u fU k p0) := Classical.byContradiction (fun h => c_10 (hw.2 h).1)
        obtain ⟨-, hu⟩ := hw.1 hok
        subst hu
        have hP : va_P E.1 vwCl [(h0, .inr (3, [.ref d1, .int (nI k)])), (d1, zI E 100 fU), (r0, .inr (2, [.ref c1, .ref c2, .int (nI (t + 1)), .int bo])), (c1, zI E 8 (upd gL (rt_u fU k p0 - 97).toNatClampNeg (nI t))), (c2, zI E 8 fN)] H := hP
        have hD : va_D A [(h0, .inr (3, [.ref d1, .int (nI k)])), (d1, zI E 100 fU), (r0, .inr (2, [.ref c1, .ref c2, .int (nI (t + 1)), .int bo])), (c1, zI E 8 (upd gL (rt_u fU k p0 - 97).toNatClampNeg (nI t))), (c2, zI E 8 fN)] := hD
        refine lv_iinc (v := nI (p0 + 1)) (lv' := [(2, .int (nI (p0 + 1))), (0, .ref h0), (1, .ref r0)]) hx hb d_Rt_readThings_22 hl (k := 2) rfl (nI_1 _) (by decide) rfl (fun ls hl => ?_)
        refine lv_goto (tgt := 2) hx hb d_Rt_readThings_25 (by decide) ?_
        exact ih (p0 + 1) (upd gL (rt_u fU k p0 - 97).toNatClampNeg (nI t)) (t + 1) (by omega) (by rw [← hgo, rt_things_pos (S := (gL, t)) hok]) _ _ ls hP hD hS (lv_sub hl [1, 2, 0] rfl)
      · have hok : ¬ rv_addok gL (rt_u fU k p0) := fun h => absurd ((hw.1 h).1.symm.trans c_10) (by decide)
        obtain ⟨-, hu⟩ := hw.2 hok
        subst hu
        have hP : va_P E.1 vwCl [(h0, .inr (3, [.ref d1, .int (nI k)])), (d1, zI E 100 fU), (r0, .inr (2, [.ref c1, .ref c2, .int (nI t), .int bo])), (c1, zI E 8 gL), (c2, zI E 8 fN)] H := hP
        have hD : va_D A [(h0, .inr (3, [.ref d1, .int (nI k)])), (d1, zI E 100 fU), (r0, .inr (2, [.ref c1, .ref c2, .int (nI t), .int bo])), (c1, zI E 8 gL), (c2, zI E 8 fN)] := hD
        refine lv_iload_n hx hb d_Rt_readThings_20 rfl (lv_at hl 2 rfl) ?_
        exact zz_reti C (rfl) hS (gL, t) (by rw [← hgo, rt_things_neg (S := (gL, t)) hok]; exact ⟨rfl, rfl⟩) hP hD d_Rt_readThings_21

set_option maxHeartbeats 4000000 in
set_option maxRecDepth 100000 in
theorem c_Rt_readThings (l : Launch) (E : zG) (h0 d1 k : Nat) (fU : Nat → Int32) (r0 c1 c2 tn : Nat) (fL fN : Nat → Int32) (bo : Int32) (hk : k ≤ 100) : zMet l y_Rt_readThings b_Rt_readThings 3 (some .int) 1 22 0 0 E [.ref h0, .ref r0] [(h0, .inr (3, [.ref d1, .int (nI k)])), (d1, zI E 100 fU), (r0, .inr (2, [.ref c1, .ref c2, .int (nI tn), .int bo])), (c1, zI E 8 fL), (c2, zI E 8 fN)] (zQi E (S := (Nat → Int32) × Nat) (fun r u => r = nI (rt_things (rt_u fU k) 100 0 (fL, tn)).1 ∧ u = (rt_things (rt_u fU k) 100 0 (fL, tn)).2) (fun u => [(h0, .inr (3, [.ref d1, .int (nI k)])), (d1, zI E 100 fU), (r0, .inr (2, [.ref c1, .ref c2, .int (nI u.2), .int bo])), (c1, zI E 8 u.1), (c2, zI E 8 fN)])) := by
  refine zz_met (by decide +kernel) (Nat.le_of_ble_eq_true rfl) ?_
  intro p e s m below meth c A ls C hin hA hK hst hP hD hl
  obtain ⟨hx, hb, hr, hml, hown, hts, hlk⟩ := id C
  have hS : va_S A s.heap s.heap [] := va_S.rf
  have hl : lv_has ls 3 [(0, .ref h0), (1, .ref r0)] := hl
  refine lv_iconst (v := 0) hx hb d_Rt_readThings_0 (by decide) ?_
  refine lv_istore_n (lv' := [(2, .int 0), (0, .ref h0), (1, .ref r0)]) hx hb d_Rt_readThings_1 rfl hl (by decide) rfl (fun ls hl => ?_)
  have hl := lv_sub (l' := [(0, .ref h0), (1, .ref r0), (2, .int (nI 0))]) hl [1, 2, 0] (rfl)
  exact lp_Rt_readThings hk C hA hK hst 100 0 fL tn (by omega) rfl _ _ ls hP hD hS hl

set_option maxHeartbeats 4000000 in
set_option maxRecDepth 100000 in
theorem lp_Rt_readInto {p : Program} {l : Launch} {e : Env} {s : State} {m : MethodId} {below : List Frame} {meth : Method} {c : Code} {A : Nat → Prop}  {E : zG} {h0 d1 k : Nat} {fU : Nat → Int32} {r0 c1 c2 : Nat} (hk : k ≤ 100) {fL0 fN0 : Nat → Int32} (h1 : ∀ j, j < 8 → fL0 j = -1) (h2 : ∀ j, j < 8 → fN0 j = 0) {gL : Nat → Int32} {t p1 : Nat} (ht : t ≤ 8) (hp1 : ¬ p1 = 0) (hT : rt_things (rt_u fU k) 100 0 (fL0, 0) = (p1, gL, t)) (C : cx p s m #[.ref h0, .ref r0] meth c b_Rt_readInto 5 y_Rt_readInto.cls (some .int)) (hA : ∀ q, s.heap.size ≤ q → A q) (hK : kt E s) (hst : stt A s s.heap) :
    ∀ (f i p0 : Nat) (gN : Nat → Int32) (b0 : Int32) (_ : i + f = 100) (_ : p0 ≤ 100 + 3 * i) (_ : rt_pairs (rt_u fU k) k gL t f p0 (gN, b0) = rt_pairs (rt_u fU k) k gL t 100 p1 (fN0, 0)) (H : Heap) (locs : List Loc) (ls : Array Slot), va_P E.1 vwCl [(h0, .inr (3, [.ref d1, .int (nI k)])), (d1, zI E 100 fU), (r0, .inr (2, [.ref c1, .ref c2, .int (nI t), .int b0])), (c1, zI E 8 gL), (c2, zI E 8 gN)] H → va_D A [(h0, .inr (3, [.ref d1, .int (nI k)])), (d1, zI E 100 fU), (r0, .inr (2, [.ref c1, .ref c2, .int (nI t), .int b0])), (c1, zI E 8 gL), (c2, zI E 8 gN)] → va_S A s.heap H locs → lv_has ls 5 [(0, .ref h0), (1, .ref r0), (2, .int (nI p0)), (3, .int (nI i))] → W p l e (zR 2 44 0 0) s m #[.ref h0, .ref r0] below meth c H locs 0 0 (MQ below ((zQi E (S := (Nat → Int32) × (Nat → Int32) × Nat × Int32) (fun r u => ∃ fL0 fN0 : Nat → Int32, (∀ j, j < 8 → fL0 j = -1) ∧ (∀ j, j < 8 → fN0 j = 0) ∧ u.1 = (rt_things (rt_u fU k) 100 0 (fL0, 0)).2.1 ∧ u.2.2.1 = (rt_things (rt_u fU k) 100 0 (fL0, 0)).2.2 ∧ ((rt_things (rt_u fU k) 100 0 (fL0, 0)).1 = 0 → r = 0 ∧ u.2.1 = fN0 ∧ u.2.2.2 = 0) ∧ (¬ (rt_things (rt_u fU k) 100 0 (fL0, 0)).1 = 0 → (r, u.2.1, u.2.2.2) = rt_pairs (rt_u fU k) k (rt_things (rt_u fU k) 100 0 (fL0, 0)).2.1 (rt_things (rt_u fU k) 100 0 (fL0, 0)).2.2 100 (rt_things (rt_u fU k) 100 0 (fL0, 0)).1 (fN0, 0))) (fun u => [(h0, .inr (3, [.ref d1, .int (nI k)])), (d1, zI E 100 fU), (r0, .inr (2, [.ref c1, .ref c2, .int (nI u.2.2.1), .int u.2.2.2])), (c1, zI E 8 u.1), (c2, zI E 8 u.2.1)])) A) #[.ref h0, .ref r0] s 0 0 A) (F0 m 18 ls []) := by
  obtain ⟨hx, hb, hr, hml, hown, hts, hlk⟩ := id C
  intro f
  induction f with
  | zero =>
    intro i p0 gN b0 hi hp hgo H locs ls hP hD hS hl
    have hi : i = 100 := by omega
    subst hi
    refine lv_iload_n hx hb d_Rt_readInto_18 rfl (lv_at hl 3 rfl) ?_
    refine lv_bipush (v := 100) hx hb d_Rt_readInto_19 (by decide) ?_
    refine lv_icmp_ge (tgt := 124) hx hb d_Rt_readInto_21 (by decide) (fun c_11 => ?_) (fun c_11 => ?_)
    · refine lv_iload_n hx hb d_Rt_readInto_124 rfl (lv_at hl 2 rfl) ?_
      exact zz_reti C (rfl) hS (gL, gN, t, b0) (⟨fL0, fN0, h1, h2, by rw [hT], by rw [hT], fun h => absurd (by rw [hT] at h; exact h) hp1, fun _ => by rw [hT]; show (_, _, _) = rt_pairs (rt_u fU k) k gL t 100 p1 (fN0, 0); rw [← hgo]; exact rfl⟩) hP hD d_Rt_readInto_125
    · exact absurd (nI_le (b := 100) (Nat.le_refl _) (by decide)) c_11
  | succ f ih =>
    intro i p0 gN b0 hi hp hgo H locs ls hP hD hS hl
    refine lv_iload_n hx hb d_Rt_readInto_18 rfl (lv_at hl 3 rfl) ?_
    refine lv_bipush (v := 100) hx hb d_Rt_readInto_19 (by decide) ?_
    refine lv_icmp_ge (tgt := 124) hx hb d_Rt_readInto_21 (by decide) (fun c_12 => ?_) (fun c_12 => ?_)
    · exact absurd c_12 (nI_ge (b := 100) (by omega) (by decide))
    · refine lv_aload_n hx hb d_Rt_readInto_24 rfl (lv_at hl 0 rfl) ?_
      refine lv_iload_n hx hb d_Rt_readInto_25 rfl (lv_at hl 2 rfl) ?_
      refine zz_goi (wr := [(r0, .inr (2, [.ref c1, .ref c2, .int (nI t), .int b0])), (c1, zI E 8 gL), (c2, zI E 8 gN)]) [0, 1] [2, 3, 4] rfl rfl (by decide) (by decide) hA hP hD hS (zz_runV (wc := [(h0, .inr (3, [.ref d1, .int (nI k)])), (d1, zI E 100 fU)]) (As := [.int (nI p0)]) (rest := []) C (c_Rt_unitAt l E h0 d1 k fU p0 hk (by omega)) ym_Rt_unitAt wd_ml_Rt_28 wd_im_Rt_unitAt wd_se_Rt_unitAt [0, 1] (by decide) rfl hA hK hst hP hD hS (ci := 3) (q0 := 0) rfl rfl rfl rfl hl.1 rfl (Nat.le_of_ble_eq_true rfl) ⟨Nat.le_of_ble_eq_true rfl, Nat.le_of_ble_eq_true rfl⟩ ⟨Nat.le_of_ble_eq_true rfl, Nat.le_of_ble_eq_true rfl⟩ d_Rt_readInto_26) (fun r_13 u H locs hw hP hD hS => ?_)
      have hP : va_P E.1 vwCl [(r0, .inr (2, [.ref c1, .ref c2, .int (nI t), .int b0])), (c1, zI E 8 gL), (c2, zI E 8 gN), (h0, .inr (3, [.ref d1, .int (nI k)])), (d1, zI E 100 fU)] H := hP
      have hD : va_D A [(r0, .inr (2, [.ref c1, .ref c2, .int (nI t), .int b0])), (c1, zI E 8 gL), (c2, zI E 8 gN), (h0, .inr (3, [.ref d1, .int (nI k)])), (d1, zI E 100 fU)] := hD
      subst hw
      have hP := hP.sub (ws' := [(h0, .inr (3, [.ref d1, .int (nI k)])), (d1, zI E 100 fU), (r0, .inr (2, [.ref c1, .ref c2, .int (nI t), .int b0])), (c1, zI E 8 gL), (c2, zI E 8 gN)]) [3, 4, 0, 1, 2] rfl
      have hD := hD.sub (ws' := [(h0, .inr (3, [.ref d1, .int (nI k)])), (d1, zI E 100 fU), (r0, .inr (2, [.ref c1, .ref c2, .int (nI t), .int b0])), (c1, zI E 8 gL), (c2, zI E 8 gN)]) [3, 4, 0, 1, 2] (by decide) rfl
      refine lv_bipush (v := 32) hx hb d_Rt_readInto_29 (by decide) ?_
      refine lv_icmp_eq (tgt := 36) hx hb d_Rt_readInto_31 (by decide) (fun c_14 => ?_) (fun c_14 => ?_)
      · refine lv_aload_n hx hb d_Rt_readInto_36 rfl (lv_at hl 1 rfl) ?_
        refine lv_aload_n hx hb d_Rt_readInto_37 rfl (lv_at hl 0 rfl) ?_
        refine lv_iload_n hx hb d_Rt_readInto_38 rfl (lv_at hl 2 rfl) ?_
        refine lv_iconst (v := 1) hx hb d_Rt_readInto_39 (by decide) ?_
        refine lv_iadd hx hb d_Rt_readInto_40 ?_
        refine zz_eqi (y := nI (p0 + 1)) (nI_1 _) ?_
        refine zz_goi (wr := [(r0, .inr (2, [.ref c1, .ref c2, .int (nI t), .int b0])), (c1, zI E 8 gL), (c2, zI E 8 gN)]) [0, 1] [2, 3, 4] rfl rfl (by decide) (by decide) hA hP hD hS (zz_runV (wc := [(h0, .inr (3, [.ref d1, .int (nI k)])), (d1, zI E 100 fU)]) (As := [.int (nI (p0 + 1))]) (rest := [.ref r0]) C (c_Rt_unitAt l E h0 d1 k fU (p0 + 1) hk (by omega)) ym_Rt_unitAt wd_ml_Rt_28 wd_im_Rt_unitAt wd_se_Rt_unitAt [0, 1] (by decide) rfl hA hK hst hP hD hS (ci := 3) (q0 := 0) rfl rfl rfl rfl hl.1 rfl (Nat.le_of_ble_eq_true rfl) ⟨Nat.le_of_ble_eq_true rfl, Nat.le_of_ble_eq_true rfl⟩ ⟨Nat.le_of_ble_eq_true rfl, Nat.le_of_ble_eq_true rfl⟩ d_Rt_readInto_41) (fun r_15 u H locs hw hP hD hS => ?_)
        have hP : va_P E.1 vwCl [(r0, .inr (2, [.ref c1, .ref c2, .int (nI t), .int b0])), (c1, zI E 8 gL), (c2, zI E 8 gN), (h0, .inr (3, [.ref d1, .int (nI k)])), (d1, zI E 100 fU)] H := hP
        have hD : va_D A [(r0, .inr (2, [.ref c1, .ref c2, .int (nI t), .int b0])), (c1, zI E 8 gL), (c2, zI E 8 gN), (h0, .inr (3, [.ref d1, .int (nI k)])), (d1, zI E 100 fU)] := hD
        subst hw
        have hP := hP.sub (ws' := [(h0, .inr (3, [.ref d1, .int (nI k)])), (d1, zI E 100 fU), (r0, .inr (2, [.ref c1, .ref c2, .int (nI t), .int b0])), (c1, zI E 8 gL), (c2, zI E 8 gN)]) [3, 4, 0, 1, 2] rfl
        have hD := hD.sub (ws' := [(h0, .inr (3, [.ref d1, .int (nI k)])), (d1, zI E 100 fU), (r0, .inr (2, [.ref c1, .ref c2, .int (nI t), .int b0])), (c1, zI E 8 gL), (c2, zI E 8 gN)]) [3, 4, 0, 1, 2] (by decide) rfl
        refine zz_goi (wr := [(h0, .inr (3, [.ref d1, .int (nI k)])), (d1, zI E 100 fU)]) [2, 3, 4] [0, 1] rfl rfl (by decide) (by decide) hA hP hD hS (zz_runV (wc := [(r0, .inr (2, [.ref c1, .ref c2, .int (nI t), .int b0])), (c1, zI E 8 gL), (c2, zI E 8 gN)]) (As := [.int (rt_u fU k (p0 + 1))]) (rest := []) C (c_Rv_setBoat l E r0 c1 c2 t gL gN b0 (rt_u fU k (p0 + 1))) ym_Rv_setBoat wd_ml_Rt_32 wd_im_Rv_setBoat wd_se_Rv_setBoat [2, 3, 4] (by decide) rfl hA hK hst hP hD hS (ci := 2) (q0 := 0) rfl rfl rfl rfl hl.1 rfl (Nat.le_of_ble_eq_true rfl) ⟨Nat.le_of_ble_eq_true rfl, Nat.le_of_ble_eq_true rfl⟩ ⟨Nat.le_of_ble_eq_true rfl, Nat.le_of_ble_eq_true rfl⟩ d_Rt_readInto_44) (fun r1 u1 H locs hwb hP hD hS => ?_)
        have hP : va_P E.1 vwCl [(h0, .inr (3, [.ref d1, .int (nI k)])), (d1, zI E 100 fU), (r0, .inr (2, [.ref c1, .ref c2, .int (nI t), .int u1])), (c1, zI E 8 gL), (c2, zI E 8 gN)] H := hP
        have hD : va_D A [(h0, .inr (3, [.ref d1, .int (nI k)])), (d1, zI E 100 fU), (r0, .inr (2, [.ref c1, .ref c2, .int (nI t), .int u1])), (c1, zI E 8 gL), (c2, zI E 8 gN)] := hD
        refine lv_if_eq (tgt := 68) hx hb d_Rt_readInto_47 (by decide) (fun c_16 => ?_) (fun c_16 => ?_)
        · have hb1 : ¬ (¬ rt_u fU k (p0 + 1) < 49 ∧ rt_u fU k (p0 + 1) ≤ 51) := fun h => absurd ((hwb.1 h).1.symm.trans c_16) (by decide)
          obtain ⟨-, hu⟩ := hwb.2 hb1
          have hP : va_P E.1 vwCl [(h0, .inr (3, [.ref d1, .int (nI k)])), (d1, zI E 100 fU), (r0, .inr (2, [.ref c1, .ref c2, .int (nI t), .int b0])), (c1, zI E 8 gL), (c2, zI E 8 gN)] H := by
            have h9 := hP
            rw [hu] at h9
            exact h9
          have hD : va_D A [(h0, .inr (3, [.ref d1, .int (nI k)])), (d1, zI E 100 fU), (r0, .inr (2, [.ref c1, .ref c2, .int (nI t), .int b0])), (c1, zI E 8 gL), (c2, zI E 8 gN)] := by
            have h9 := hD
            rw [hu] at h9
            exact h9
          refine lv_aload_n hx hb d_Rt_readInto_68 rfl (lv_at hl 1 rfl) ?_
          refine lv_aload_n hx hb d_Rt_readInto_69 rfl (lv_at hl 0 rfl) ?_
          refine lv_iload_n hx hb d_Rt_readInto_70 rfl (lv_at hl 2 rfl) ?_
          refine lv_iconst (v := 1) hx hb d_Rt_readInto_71 (by decide) ?_
          refine lv_iadd hx hb d_Rt_readInto_72 ?_
          refine zz_eqi (y := nI (p0 + 1)) (nI_1 _) ?_
          refine zz_goi (wr := [(r0, .inr (2, [.ref c1, .ref c2, .int (nI t), .int b0])), (c1, zI E 8 gL), (c2, zI E 8 gN)]) [0, 1] [2, 3, 4] rfl rfl (by decide) (by decide) hA hP hD hS (zz_runV (wc := [(h0, .inr (3, [.ref d1, .int (nI k)])), (d1, zI E 100 fU)]) (As := [.int (nI (p0 + 1))]) (rest := [.ref r0]) C (c_Rt_unitAt l E h0 d1 k fU (p0 + 1) hk (by omega)) ym_Rt_unitAt wd_ml_Rt_28 wd_im_Rt_unitAt wd_se_Rt_unitAt [0, 1] (by decide) rfl hA hK hst hP hD hS (ci := 3) (q0 := 0) rfl rfl rfl rfl hl.1 rfl (Nat.le_of_ble_eq_true rfl) ⟨Nat.le_of_ble_eq_true rfl, Nat.le_of_ble_eq_true rfl⟩ ⟨Nat.le_of_ble_eq_true rfl, Nat.le_of_ble_eq_true rfl⟩ d_Rt_readInto_73) (fun r_18 u H locs hw hP hD hS => ?_)
          have hP : va_P E.1 vwCl [(r0, .inr (2, [.ref c1, .ref c2, .int (nI t), .int b0])), (c1, zI E 8 gL), (c2, zI E 8 gN), (h0, .inr (3, [.ref d1, .int (nI k)])), (d1, zI E 100 fU)] H := hP
          have hD : va_D A [(r0, .inr (2, [.ref c1, .ref c2, .int (nI t), .int b0])), (c1, zI E 8 gL), (c2, zI E 8 gN), (h0, .inr (3, [.ref d1, .int (nI k)])), (d1, zI E 100 fU)] := hD
          subst hw
          have hP := hP.sub (ws' := [(h0, .inr (3, [.ref d1, .int (nI k)])), (d1, zI E 100 fU), (r0, .inr (2, [.ref c1, .ref c2, .int (nI t), .int b0])), (c1, zI E 8 gL), (c2, zI E 8 gN)]) [3, 4, 0, 1, 2] rfl
          have hD := hD.sub (ws' := [(h0, .inr (3, [.ref d1, .int (nI k)])), (d1, zI E 100 fU), (r0, .inr (2, [.ref c1, .ref c2, .int (nI t), .int b0])), (c1, zI E 8 gL), (c2, zI E 8 gN)]) [3, 4, 0, 1, 2] (by decide) rfl
          refine zz_goi (wr := [(h0, .inr (3, [.ref d1, .int (nI k)])), (d1, zI E 100 fU)]) [2, 3, 4] [0, 1] rfl rfl (by decide) (by decide) hA hP hD hS (zz_runV (wc := [(r0, .inr (2, [.ref c1, .ref c2, .int (nI t), .int b0])), (c1, zI E 8 gL), (c2, zI E 8 gN)]) (As := [.int (rt_u fU k (p0 + 1))]) (rest := []) C (c_Rv_thingOf l E r0 c1 c2 t gL gN b0 (rt_u fU k (p0 + 1))) ym_Rv_thingOf wd_ml_Rt_36 wd_im_Rv_thingOf wd_se_Rv_thingOf [2, 3, 4] (by decide) rfl hA hK hst hP hD hS (ci := 2) (q0 := 0) rfl rfl rfl rfl hl.1 rfl (Nat.le_of_ble_eq_true rfl) ⟨Nat.le_of_ble_eq_true rfl, Nat.le_of_ble_eq_true rfl⟩ ⟨Nat.le_of_ble_eq_true rfl, Nat.le_of_ble_eq_true rfl⟩ d_Rt_readInto_76) (fun r_19 u H locs hw hP hD hS => ?_)
          have hP : va_P E.1 vwCl [(h0, .inr (3, [.ref d1, .int (nI k)])), (d1, zI E 100 fU), (r0, .inr (2, [.ref c1, .ref c2, .int (nI t), .int b0])), (c1, zI E 8 gL), (c2, zI E 8 gN)] H := hP
          have hD : va_D A [(h0, .inr (3, [.ref d1, .int (nI k)])), (d1, zI E 100 fU), (r0, .inr (2, [.ref c1, .ref c2, .int (nI t), .int b0])), (c1, zI E 8 gL), (c2, zI E 8 gN)] := hD
          subst hw
          refine lv_istore (lv' := [(4, .int (rv_thing gL (rt_u fU k (p0 + 1)))), (0, .ref h0), (1, .ref r0), (2, .int (nI p0)), (3, .int (nI i))]) hx hb d_Rt_readInto_79 hl (by decide) rfl (fun ls hl => ?_)
          refine lv_iload hx hb d_Rt_readInto_81 (lv_at hl 0 rfl) ?_
          refine lv_iconst (v := (-1)) hx hb d_Rt_readInto_83 (by decide) ?_
          refine lv_icmp_ne (tgt := 91) hx hb d_Rt_readInto_84 (by decide) (fun c_20 => ?_) (fun c_20 => ?_)
          · refine lv_aload_n hx hb d_Rt_readInto_91 rfl (lv_at hl 2 rfl) ?_
            refine lv_iload hx hb d_Rt_readInto_92 (lv_at hl 0 rfl) ?_
            refine lv_aload_n hx hb d_Rt_readInto_94 rfl (lv_at hl 2 rfl) ?_
            refine lv_aload_n hx hb d_Rt_readInto_95 rfl (lv_at hl 1 rfl) ?_
            refine lv_iload_n hx hb d_Rt_readInto_96 rfl (lv_at hl 3 rfl) ?_
            refine lv_iconst (v := 2) hx hb d_Rt_readInto_97 (by decide) ?_
            refine lv_iadd hx hb d_Rt_readInto_98 ?_
            refine zz_eqi (y := nI (p0 + 2)) (nI_add p0 2) ?_
            refine zz_goi (wr := [(r0, .inr (2, [.ref c1, .ref c2, .int (nI t), .int b0])), (c1, zI E 8 gL), (c2, zI E 8 gN)]) [0, 1] [2, 3, 4] rfl rfl (by decide) (by decide) hA hP hD hS (zz_runV (wc := [(h0, .inr (3, [.ref d1, .int (nI k)])), (d1, zI E 100 fU)]) (As := [.int (nI (p0 + 2))]) (rest := [.ref r0, .int (rv_thing gL (rt_u fU k (p0 + 1))), .ref r0]) C (c_Rt_unitAt l E h0 d1 k fU (p0 + 2) hk (by omega)) ym_Rt_unitAt wd_ml_Rt_28 wd_im_Rt_unitAt wd_se_Rt_unitAt [0, 1] (by decide) rfl hA hK hst hP hD hS (ci := 3) (q0 := 0) rfl rfl rfl rfl hl.1 rfl (Nat.le_of_ble_eq_true rfl) ⟨Nat.le_of_ble_eq_true rfl, Nat.le_of_ble_eq_true rfl⟩ ⟨Nat.le_of_ble_eq_true rfl, Nat.le_of_ble_eq_true rfl⟩ d_Rt_readInto_99) (fun r_21 u H locs hw hP hD hS => ?_)
            have hP : va_P E.1 vwCl [(r0, .inr (2, [.ref c1, .ref c2, .int (nI t), .int b0])), (c1, zI E 8 gL), (c2, zI E 8 gN), (h0, .inr (3, [.ref d1, .int (nI k)])), (d1, zI E 100 fU)] H := hP
            have hD : va_D A [(r0, .inr (2, [.ref c1, .ref c2, .int (nI t), .int b0])), (c1, zI E 8 gL), (c2, zI E 8 gN), (h0, .inr (3, [.ref d1, .int (nI k)])), (d1, zI E 100 fU)] := hD
            subst hw
            have hP := hP.sub (ws' := [(h0, .inr (3, [.ref d1, .int (nI k)])), (d1, zI E 100 fU), (r0, .inr (2, [.ref c1, .ref c2, .int (nI t), .int b0])), (c1, zI E 8 gL), (c2, zI E 8 gN)]) [3, 4, 0, 1, 2] rfl
            have hD := hD.sub (ws' := [(h0, .inr (3, [.ref d1, .int (nI k)])), (d1, zI E 100 fU), (r0, .inr (2, [.ref c1, .ref c2, .int (nI t), .int b0])), (c1, zI E 8 gL), (c2, zI E 8 gN)]) [3, 4, 0, 1, 2] (by decide) rfl
            refine zz_goi (wr := [(h0, .inr (3, [.ref d1, .int (nI k)])), (d1, zI E 100 fU)]) [2, 3, 4] [0, 1] rfl rfl (by decide) (by decide) hA hP hD hS (zz_runV (wc := [(r0, .inr (2, [.ref c1, .ref c2, .int (nI t), .int b0])), (c1, zI E 8 gL), (c2, zI E 8 gN)]) (As := [.int (rt_u fU k (p0 + 2))]) (rest := [.int (rv_thing gL (rt_u fU k (p0 + 1))), .ref r0]) C (c_Rv_thingOf l E r0 c1 c2 t gL gN b0 (rt_u fU k (p0 + 2))) ym_Rv_thingOf wd_ml_Rt_36 wd_im_Rv_thingOf wd_se_Rv_thingOf [2, 3, 4] (by decide) rfl hA hK hst hP hD hS (ci := 2) (q0 := 0) rfl rfl rfl rfl hl.1 rfl (Nat.le_of_ble_eq_true rfl) ⟨Nat.le_of_ble_eq_true rfl, Nat.le_of_ble_eq_true rfl⟩ ⟨Nat.le_of_ble_eq_true rfl, Nat.le_of_ble_eq_true rfl⟩ d_Rt_readInto_102) (fun r_22 u H locs hw hP hD hS => ?_)
            have hP : va_P E.1 vwCl [(h0, .inr (3, [.ref d1, .int (nI k)])), (d1, zI E 100 fU), (r0, .inr (2, [.ref c1, .ref c2, .int (nI t), .int b0])), (c1, zI E 8 gL), (c2, zI E 8 gN)] H := hP
            have hD : va_D A [(h0, .inr (3, [.ref d1, .int (nI k)])), (d1, zI E 100 fU), (r0, .inr (2, [.ref c1, .ref c2, .int (nI t), .int b0])), (c1, zI E 8 gL), (c2, zI E 8 gN)] := hD
            subst hw
            refine zz_goi (wr := [(h0, .inr (3, [.ref d1, .int (nI k)])), (d1, zI E 100 fU)]) [2, 3, 4] [0, 1] rfl rfl (by decide) (by decide) hA hP hD hS (zz_runV (wc := [(r0, .inr (2, [.ref c1, .ref c2, .int (nI t), .int b0])), (c1, zI E 8 gL), (c2, zI E 8 gN)]) (As := [.int (rv_thing gL (rt_u fU k (p0 + 1))), .int (rv_thing gL (rt_u fU k (p0 + 2)))]) (rest := []) C (c_Rv_keepApart l E r0 c1 c2 t gL gN b0 (rv_thing gL (rt_u fU k (p0 + 1))) (rv_thing gL (rt_u fU k (p0 + 2))) ht) ym_Rv_keepApart wd_ml_Rt_39 wd_im_Rv_keepApart wd_se_Rv_keepApart [2, 3, 4] (by decide) rfl hA hK hst hP hD hS (ci := 2) (q0 := 0) rfl rfl rfl rfl hl.1 rfl (Nat.le_of_ble_eq_true rfl) ⟨Nat.le_of_ble_eq_true rfl, Nat.le_of_ble_eq_true rfl⟩ ⟨Nat.le_of_ble_eq_true rfl, Nat.le_of_ble_eq_true rfl⟩ d_Rt_readInto_105) (fun r2 u2 H locs hwk hP hD hS => ?_)
            have hP : va_P E.1 vwCl [(h0, .inr (3, [.ref d1, .int (nI k)])), (d1, zI E 100 fU), (r0, .inr (2, [.ref c1, .ref c2, .int (nI t), .int b0])), (c1, zI E 8 gL), (c2, zI E 8 u2)] H := hP
            have hD : va_D A [(h0, .inr (3, [.ref d1, .int (nI k)])), (d1, zI E 100 fU), (r0, .inr (2, [.ref c1, .ref c2, .int (nI t), .int b0])), (c1, zI E 8 gL), (c2, zI E 8 u2)] := hD
            refine lv_if_ne (tgt := 115) hx hb d_Rt_readInto_108 (by decide) (fun c_23 => ?_) (fun c_23 => ?_)
            · have hk1 : rv_kok t (rv_thing gL (rt_u fU k (p0 + 1))) (rv_thing gL (rt_u fU k (p0 + 2))) := Classical.byContradiction (fun h => c_23 (hwk.2 h).1)
              obtain ⟨-, hu⟩ := hwk.1 hk1
              subst hu
              have hP : va_P E.1 vwCl [(h0, .inr (3, [.ref d1, .int (nI k)])), (d1, zI E 100 fU), (r0, .inr (2, [.ref c1, .ref c2, .int (nI t), .int b0])), (c1, zI E 8 gL), (c2, zI E 8 (rv_keep gN (rv_thing gL (rt_u fU k (p0 + 1))) (rv_thing gL (rt_u fU k (p0 + 2)))))] H := hP
              have hD : va_D A [(h0, .inr (3, [.ref d1, .int (nI k)])), (d1, zI E 100 fU), (r0, .inr (2, [.ref c1, .ref c2, .int (nI t), .int b0])), (c1, zI E 8 gL), (c2, zI E 8 (rv_keep gN (rv_thing gL (rt_u fU k (p0 + 1))) (rv_thing gL (rt_u fU k (p0 + 2)))))] := hD
              refine lv_iinc (v := nI (p0 + 3)) (lv' := [(2, .int (nI (p0 + 3))), (4, .int (rv_thing gL (rt_u fU k (p0 + 1)))), (0, .ref h0), (1, .ref r0), (3, .int (nI i))]) hx hb d_Rt_readInto_115 hl (k := 3) rfl (nI_add p0 3) (by decide) rfl (fun ls hl => ?_)
              refine lv_iinc (v := nI (i + 1)) (lv' := [(3, .int (nI (i + 1))), (2, .int (nI (p0 + 3))), (4, .int (rv_thing gL (rt_u fU k (p0 + 1)))), (0, .ref h0), (1, .ref r0)]) hx hb d_Rt_readInto_118 hl (k := 4) rfl (nI_1 _) (by decide) rfl (fun ls hl => ?_)
              refine lv_goto (tgt := 18) hx hb d_Rt_readInto_121 (by decide) ?_
              exact ih (i + 1) (p0 + 3) (rv_keep gN (rv_thing gL (rt_u fU k (p0 + 1))) (rv_thing gL (rt_u fU k (p0 + 2)))) b0 (by omega) (by omega) (by rw [← hgo]; conv => rhs; rw [rt_pairs, if_pos c_14, if_neg hb1, if_neg c_20, if_pos hk1]) _ _ ls hP hD hS (lv_sub hl [3, 4, 1, 0] rfl)
            · have hk1 : ¬ rv_kok t (rv_thing gL (rt_u fU k (p0 + 1))) (rv_thing gL (rt_u fU k (p0 + 2))) := fun h => absurd ((hwk.1 h).1.symm.trans c_23) (by decide)
              obtain ⟨-, hu⟩ := hwk.2 hk1
              have hP : va_P E.1 vwCl [(h0, .inr (3, [.ref d1, .int (nI k)])), (d1, zI E 100 fU), (r0, .inr (2, [.ref c1, .ref c2, .int (nI t), .int b0])), (c1, zI E 8 gL), (c2, zI E 8 gN)] H := by
                have h9 := hP
                rw [hu] at h9
                exact h9
              have hD : va_D A [(h0, .inr (3, [.ref d1, .int (nI k)])), (d1, zI E 100 fU), (r0, .inr (2, [.ref c1, .ref c2, .int (nI t), .int b0])), (c1, zI E 8 gL), (c2, zI E 8 gN)] := by
                have h9 := hD
                rw [hu] at h9
                exact h9
              refine lv_iload_n hx hb d_Rt_readInto_111 rfl (lv_at hl 3 rfl) ?_
              refine lv_iconst (v := 2) hx hb d_Rt_readInto_112 (by decide) ?_
              refine lv_iadd hx hb d_Rt_readInto_113 ?_
              refine zz_eqi (y := nI (p0 + 2)) (nI_add p0 2) ?_
              exact zz_reti C (rfl) hS (gL, gN, t, b0) (⟨fL0, fN0, h1, h2, by rw [hT], by rw [hT], fun h => absurd (by rw [hT] at h; exact h) hp1, fun _ => by rw [hT]; show (_, _, _) = rt_pairs (rt_u fU k) k gL t 100 p1 (fN0, 0); rw [← hgo]; exact (by rw [rt_pairs, if_pos c_14, if_neg hb1, if_neg c_20, if_neg hk1])⟩) hP hD d_Rt_readInto_114
          · refine lv_iload_n hx hb d_Rt_readInto_87 rfl (lv_at hl 3 rfl) ?_
            refine lv_iconst (v := 1) hx hb d_Rt_readInto_88 (by decide) ?_
            refine lv_iadd hx hb d_Rt_readInto_89 ?_
            refine zz_eqi (y := nI (p0 + 1)) (nI_1 _) ?_
            exact zz_reti C (rfl) hS (gL, gN, t, b0) (⟨fL0, fN0, h1, h2, by rw [hT], by rw [hT], fun h => absurd (by rw [hT] at h; exact h) hp1, fun _ => by rw [hT]; show (_, _, _) = rt_pairs (rt_u fU k) k gL t 100 p1 (fN0, 0); rw [← hgo]; exact (by rw [rt_pairs, if_pos c_14, if_neg hb1, if_pos c_20])⟩) hP hD d_Rt_readInto_90
        · have hb1 : ¬ rt_u fU k (p0 + 1) < 49 ∧ rt_u fU k (p0 + 1) ≤ 51 := Classical.byContradiction (fun h => c_16 (hwb.2 h).1)
          obtain ⟨-, hu⟩ := hwb.1 hb1
          subst hu
          have hP : va_P E.1 vwCl [(h0, .inr (3, [.ref d1, .int (nI k)])), (d1, zI E 100 fU), (r0, .inr (2, [.ref c1, .ref c2, .int (nI t), .int (rt_u fU k (p0 + 1) - 48)])), (c1, zI E 8 gL), (c2, zI E 8 gN)] H := hP
          have hD : va_D A [(h0, .inr (3, [.ref d1, .int (nI k)])), (d1, zI E 100 fU), (r0, .inr (2, [.ref c1, .ref c2, .int (nI t), .int (rt_u fU k (p0 + 1) - 48)])), (c1, zI E 8 gL), (c2, zI E 8 gN)] := hD
          refine lv_iload_n hx hb d_Rt_readInto_50 rfl (lv_at hl 2 rfl) ?_
          refine lv_iconst (v := 2) hx hb d_Rt_readInto_51 (by decide) ?_
          refine lv_iadd hx hb d_Rt_readInto_52 ?_
          refine zz_eqi (y := nI (p0 + 2)) (nI_add p0 2) ?_
          refine lv_aload_n hx hb d_Rt_readInto_53 rfl (lv_at hl 0 rfl) ?_
          refine zz_get C hK hP fl_Rt_15 0 rfl rfl d_Rt_readInto_54 ?_
          refine lv_icmp_ne (tgt := 64) hx hb d_Rt_readInto_57 (by decide) (fun c_17 => ?_) (fun c_17 => ?_)
          · refine lv_iload_n hx hb d_Rt_readInto_64 rfl (lv_at hl 2 rfl) ?_
            refine lv_iconst (v := 2) hx hb d_Rt_readInto_65 (by decide) ?_
            refine lv_iadd hx hb d_Rt_readInto_66 ?_
            refine zz_eqi (y := nI (p0 + 2)) (nI_add p0 2) ?_
            exact zz_reti C (rfl) hS (gL, gN, t, rt_u fU k (p0 + 1) - 48) (⟨fL0, fN0, h1, h2, by rw [hT], by rw [hT], fun h => absurd (by rw [hT] at h; exact h) hp1, fun _ => by rw [hT]; show (_, _, _) = rt_pairs (rt_u fU k) k gL t 100 p1 (fN0, 0); rw [← hgo]; exact (by rw [rt_pairs, if_pos c_14, if_pos hb1, if_neg (fun z => c_17 (by rw [z]))])⟩) hP hD d_Rt_readInto_67
          · refine lv_iconst (v := (-1)) hx hb d_Rt_readInto_60 (by decide) ?_
            refine lv_goto (tgt := 67) hx hb d_Rt_readInto_61 (by decide) ?_
            exact zz_reti C (rfl) hS (gL, gN, t, rt_u fU k (p0 + 1) - 48) (⟨fL0, fN0, h1, h2, by rw [hT], by rw [hT], fun h => absurd (by rw [hT] at h; exact h) hp1, fun _ => by rw [hT]; show (_, _, _) = rt_pairs (rt_u fU k) k gL t 100 p1 (fN0, 0); rw [← hgo]; exact (by rw [rt_pairs, if_pos c_14, if_pos hb1, if_pos ((nI_eq (by omega) (by omega)).mp c_17)])⟩) hP hD d_Rt_readInto_67
      · refine lv_iload_n hx hb d_Rt_readInto_34 rfl (lv_at hl 2 rfl) ?_
        exact zz_reti C (rfl) hS (gL, gN, t, b0) (⟨fL0, fN0, h1, h2, by rw [hT], by rw [hT], fun h => absurd (by rw [hT] at h; exact h) hp1, fun _ => by rw [hT]; show (_, _, _) = rt_pairs (rt_u fU k) k gL t 100 p1 (fN0, 0); rw [← hgo]; exact (by rw [rt_pairs, if_neg c_14])⟩) hP hD d_Rt_readInto_35

set_option maxHeartbeats 4000000 in
set_option maxRecDepth 100000 in
theorem c_Rt_readInto (l : Launch) (E : zG) (h0 d1 k : Nat) (fU : Nat → Int32) (r0 c1 c2 : Nat) (fL fN : Nat → Int32) (bo : Int32) (tt : Int32) (hk : k ≤ 100) : zMet l y_Rt_readInto b_Rt_readInto 5 (some .int) 2 44 0 0 E [.ref h0, .ref r0] [(h0, .inr (3, [.ref d1, .int (nI k)])), (d1, zI E 100 fU), (r0, .inr (2, [.ref c1, .ref c2, .int tt, .int bo])), (c1, zI E 8 fL), (c2, zI E 8 fN)] (zQi E (S := (Nat → Int32) × (Nat → Int32) × Nat × Int32) (fun r u => ∃ fL0 fN0 : Nat → Int32, (∀ j, j < 8 → fL0 j = -1) ∧ (∀ j, j < 8 → fN0 j = 0) ∧ u.1 = (rt_things (rt_u fU k) 100 0 (fL0, 0)).2.1 ∧ u.2.2.1 = (rt_things (rt_u fU k) 100 0 (fL0, 0)).2.2 ∧ ((rt_things (rt_u fU k) 100 0 (fL0, 0)).1 = 0 → r = 0 ∧ u.2.1 = fN0 ∧ u.2.2.2 = 0) ∧ (¬ (rt_things (rt_u fU k) 100 0 (fL0, 0)).1 = 0 → (r, u.2.1, u.2.2.2) = rt_pairs (rt_u fU k) k (rt_things (rt_u fU k) 100 0 (fL0, 0)).2.1 (rt_things (rt_u fU k) 100 0 (fL0, 0)).2.2 100 (rt_things (rt_u fU k) 100 0 (fL0, 0)).1 (fN0, 0))) (fun u => [(h0, .inr (3, [.ref d1, .int (nI k)])), (d1, zI E 100 fU), (r0, .inr (2, [.ref c1, .ref c2, .int (nI u.2.2.1), .int u.2.2.2])), (c1, zI E 8 u.1), (c2, zI E 8 u.2.1)])) := by
  refine zz_met (by decide +kernel) (Nat.le_of_ble_eq_true rfl) ?_
  intro p e s m below meth c A ls C hin hA hK hst hP hD hl
  obtain ⟨hx, hb, hr, hml, hown, hts, hlk⟩ := id C
  have hS : va_S A s.heap s.heap [] := va_S.rf
  have hl : lv_has ls 5 [(0, .ref h0), (1, .ref r0)] := hl
  refine lv_aload_n hx hb d_Rt_readInto_0 rfl (lv_at hl 1 rfl) ?_
  refine zz_gov (wr := [(h0, .inr (3, [.ref d1, .int (nI k)])), (d1, zI E 100 fU)]) [2, 3, 4] [0, 1] rfl rfl (by decide) (by decide) hA hP hD hS (zz_runV (wc := [(r0, .inr (2, [.ref c1, .ref c2, .int tt, .int bo])), (c1, zI E 8 fL), (c2, zI E 8 fN)]) (As := []) (rest := []) C (c_Rv_clear l E r0 c1 c2 fL fN bo tt) ym_Rv_clear wd_ml_Rt_19 wd_im_Rv_clear wd_se_Rv_clear [2, 3, 4] (by decide) rfl hA hK hst hP hD hS (ci := 2) (q0 := 0) rfl rfl rfl rfl hl.1 rfl (Nat.le_of_ble_eq_true rfl) ⟨Nat.le_of_ble_eq_true rfl, Nat.le_of_ble_eq_true rfl⟩ ⟨Nat.le_of_ble_eq_true rfl, Nat.le_of_ble_eq_true rfl⟩ d_Rt_readInto_1) (fun u0 H locs h0c hP hD hS => ?_)
  have hP : va_P E.1 vwCl [(h0, .inr (3, [.ref d1, .int (nI k)])), (d1, zI E 100 fU), (r0, .inr (2, [.ref c1, .ref c2, .int 0, .int 0])), (c1, zI E 8 u0.1), (c2, zI E 8 u0.2)] H := hP
  have hD : va_D A [(h0, .inr (3, [.ref d1, .int (nI k)])), (d1, zI E 100 fU), (r0, .inr (2, [.ref c1, .ref c2, .int 0, .int 0])), (c1, zI E 8 u0.1), (c2, zI E 8 u0.2)] := hD
  obtain ⟨fL0, fN0⟩ := u0
  obtain ⟨h1, h2⟩ := h0c
  have hP : va_P E.1 vwCl [(h0, .inr (3, [.ref d1, .int (nI k)])), (d1, zI E 100 fU), (r0, .inr (2, [.ref c1, .ref c2, .int (nI 0), .int 0])), (c1, zI E 8 fL0), (c2, zI E 8 fN0)] H := hP
  have hD : va_D A [(h0, .inr (3, [.ref d1, .int (nI k)])), (d1, zI E 100 fU), (r0, .inr (2, [.ref c1, .ref c2, .int (nI 0), .int 0])), (c1, zI E 8 fL0), (c2, zI E 8 fN0)] := hD
  refine lv_aload_n hx hb d_Rt_readInto_4 rfl (lv_at hl 0 rfl) ?_
  refine lv_aload_n hx hb d_Rt_readInto_5 rfl (lv_at hl 1 rfl) ?_
  refine zz_goi (wr := []) [0, 1, 2, 3, 4] [] rfl rfl (by decide) (by decide) hA hP hD hS (zz_runV (wc := [(h0, .inr (3, [.ref d1, .int (nI k)])), (d1, zI E 100 fU), (r0, .inr (2, [.ref c1, .ref c2, .int (nI 0), .int 0])), (c1, zI E 8 fL0), (c2, zI E 8 fN0)]) (As := [.ref r0]) (rest := []) C (c_Rt_readThings l E h0 d1 k fU r0 c1 c2 0 fL0 fN0 0 hk) ym_Rt_readThings wd_ml_Rt_24 wd_im_Rt_readThings wd_se_Rt_readThings [0, 1, 2, 3, 4] (by decide) rfl hA hK hst hP hD hS (ci := 3) (q0 := 0) rfl rfl rfl rfl hl.1 rfl (Nat.le_of_ble_eq_true rfl) ⟨Nat.le_of_ble_eq_true rfl, Nat.le_of_ble_eq_true rfl⟩ ⟨Nat.le_of_ble_eq_true rfl, Nat.le_of_ble_eq_true rfl⟩ d_Rt_readInto_6) (fun r1 u1 H locs hw1 hP hD hS => ?_)
  have hP : va_P E.1 vwCl [(h0, .inr (3, [.ref d1, .int (nI k)])), (d1, zI E 100 fU), (r0, .inr (2, [.ref c1, .ref c2, .int (nI u1.2), .int 0])), (c1, zI E 8 u1.1), (c2, zI E 8 fN0)] H := hP
  have hD : va_D A [(h0, .inr (3, [.ref d1, .int (nI k)])), (d1, zI E 100 fU), (r0, .inr (2, [.ref c1, .ref c2, .int (nI u1.2), .int 0])), (c1, zI E 8 u1.1), (c2, zI E 8 fN0)] := hD
  obtain ⟨gL, t⟩ := u1
  obtain ⟨p1, hp1⟩ : ∃ p1, p1 = (rt_things (rt_u fU k) 100 0 (fL0, 0)).1 := ⟨_, rfl⟩
  have hT : rt_things (rt_u fU k) 100 0 (fL0, 0) = (p1, gL, t) := by rw [hp1, hw1.2]
  have er : r1 = nI p1 := by rw [hp1]; exact hw1.1
  subst er
  have hP : va_P E.1 vwCl [(h0, .inr (3, [.ref d1, .int (nI k)])), (d1, zI E 100 fU), (r0, .inr (2, [.ref c1, .ref c2, .int (nI t), .int 0])), (c1, zI E 8 gL), (c2, zI E 8 fN0)] H := hP
  have hD : va_D A [(h0, .inr (3, [.ref d1, .int (nI k)])), (d1, zI E 100 fU), (r0, .inr (2, [.ref c1, .ref c2, .int (nI t), .int 0])), (c1, zI E 8 gL), (c2, zI E 8 fN0)] := hD
  have ht : t ≤ 8 := by have := rt_things_le (U := rt_u fU k) h1; rw [hT] at this; exact this
  have hpl : p1 ≤ 100 := by have := rt_things_p (rt_u fU k) 100 0 (fL0, 0); rw [hT] at this; simpa using this
  refine lv_istore_n (lv' := [(2, .int (nI p1)), (0, .ref h0), (1, .ref r0)]) hx hb d_Rt_readInto_9 rfl hl (by decide) rfl (fun ls hl => ?_)
  refine lv_iload_n hx hb d_Rt_readInto_10 rfl (lv_at hl 0 rfl) ?_
  refine lv_if_ne (tgt := 16) hx hb d_Rt_readInto_11 (by decide) (fun c_25 => ?_) (fun c_25 => ?_)
  · have hz : ¬ p1 = 0 := fun z => c_25 (by rw [z]; rfl)
    refine lv_iconst (v := 0) hx hb d_Rt_readInto_16 (by decide) ?_
    refine lv_istore_n (lv' := [(3, .int 0), (2, .int (nI p1)), (0, .ref h0), (1, .ref r0)]) hx hb d_Rt_readInto_17 rfl hl (by decide) rfl (fun ls hl => ?_)
    have hl := lv_sub (l' := [(0, .ref h0), (1, .ref r0), (2, .int (nI p1)), (3, .int (nI 0))]) hl [2, 3, 1, 0] (rfl)
    exact lp_Rt_readInto hk h1 h2 ht hz hT C hA hK hst 100 0 p1 fN0 0 (by omega) (by omega) rfl _ _ ls hP hD hS hl
  · have hz : p1 = 0 := zz_nI0 c_25 (by omega)
    refine lv_iload_n hx hb d_Rt_readInto_14 rfl (lv_at hl 0 rfl) ?_
    exact zz_reti C (rfl) hS (gL, fN0, t, 0) (⟨fL0, fN0, h1, h2, by rw [hT], by rw [hT], fun _ => ⟨by rw [hz]; rfl, rfl, rfl⟩, fun h => absurd (by rw [hT]; exact hz) h⟩) hP hD d_Rt_readInto_15
