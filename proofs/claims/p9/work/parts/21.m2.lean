set_option maxHeartbeats 4000000 in
set_option maxRecDepth 100000 in
theorem c_Mo_weigh_bad (l : Launch) (E : zG) (y0 : Nat) (v1 v2 v3 v4 v5 v6 v7 v8 v9 v10 v11 v12 v13 v14 v15 v16 v17 v18 v19 v20 v21 v22 v23 v24 v25 v26 v27 : Value) (th : Int32) (x k : Int32) (hb0 : ¬ (¬ x < 1 ∧ ¬ 13 < x ∧ (k = 0 ∨ k = 1))) : zMet l y_Mo_weigh b_Mo_weigh 5 (some .int) 0 0 0 0 E [.ref y0, .int x, .int k] [(y0, .inr (7, [.int th, v1, v2, v3, v4, v5, v6, v7, v8, v9, v10, v11, v12, v13, v14, v15, v16, v17, v18, v19, v20, v21, v22, v23, v24, v25, v26, v27]))] (zQi E (S := Unit) (fun r _ => r = -2) (fun _ => [(y0, .inr (7, [.int 0, v1, v2, v3, v4, v5, v6, v7, v8, v9, v10, v11, v12, v13, v14, v15, v16, v17, v18, v19, v20, v21, v22, v23, v24, v25, v26, v27]))])) := by
  refine zz_met (by decide +kernel) (Nat.le_of_ble_eq_true rfl) ?_
  intro p e s m below meth c A ls C hin hA hK hst hP hD hl
  obtain ⟨hx, hb, hr, hml, hown, hts, hlk⟩ := id C
  have hS : va_S A s.heap s.heap [] := va_S.rf
  have hl : lv_has ls 5 [(0, .ref y0), (1, .int x), (2, .int k)] := hl
  refine lv_aload_n hx hb d_Mo_weigh_0 rfl (lv_at hl 0 rfl) ?_
  refine lv_iconst (v := 0) hx hb d_Mo_weigh_1 (by decide) ?_
  refine zz_put C hK hP hD hS fl_Mo_72 0 rfl rfl rfl (Nat.le_of_ble_eq_true rfl) d_Mo_weigh_2 (fun H locs hP hD hS => ?_)
  have hP : va_P E.1 vwCl [(y0, .inr (7, [.int 0, v1, v2, v3, v4, v5, v6, v7, v8, v9, v10, v11, v12, v13, v14, v15, v16, v17, v18, v19, v20, v21, v22, v23, v24, v25, v26, v27]))] H := hP
  have hD : va_D A [(y0, .inr (7, [.int 0, v1, v2, v3, v4, v5, v6, v7, v8, v9, v10, v11, v12, v13, v14, v15, v16, v17, v18, v19, v20, v21, v22, v23, v24, v25, v26, v27]))] := hD
  refine lv_iload_n hx hb d_Mo_weigh_5 rfl (lv_at hl 1 rfl) ?_
  refine lv_iconst (v := 1) hx hb d_Mo_weigh_6 (by decide) ?_
  refine lv_icmp_lt (tgt := 25) hx hb d_Mo_weigh_7 (by decide) (fun c_1 => ?_) (fun c_1 => ?_)
  · refine lv_bipush (v := (-2)) hx hb d_Mo_weigh_25 (by decide) ?_
    exact zz_reti C (rfl) hS () (rfl) hP hD d_Mo_weigh_27
  · refine lv_iload_n hx hb d_Mo_weigh_10 rfl (lv_at hl 1 rfl) ?_
    refine lv_bipush (v := 13) hx hb d_Mo_weigh_11 (by decide) ?_
    refine lv_icmp_gt (tgt := 25) hx hb d_Mo_weigh_13 (by decide) (fun c_2 => ?_) (fun c_2 => ?_)
    · refine lv_bipush (v := (-2)) hx hb d_Mo_weigh_25 (by decide) ?_
      exact zz_reti C (rfl) hS () (rfl) hP hD d_Mo_weigh_27
    · refine lv_iload_n hx hb d_Mo_weigh_16 rfl (lv_at hl 2 rfl) ?_
      refine lv_if_eq (tgt := 28) hx hb d_Mo_weigh_17 (by decide) (fun c_3 => ?_) (fun c_3 => ?_)
      · exact absurd ⟨c_1, c_2, Or.inl c_3⟩ hb0
      · refine lv_iload_n hx hb d_Mo_weigh_20 rfl (lv_at hl 2 rfl) ?_
        refine lv_iconst (v := 1) hx hb d_Mo_weigh_21 (by decide) ?_
        refine lv_icmp_eq (tgt := 28) hx hb d_Mo_weigh_22 (by decide) (fun c_4 => ?_) (fun c_4 => ?_)
        · exact absurd ⟨c_1, c_2, Or.inr c_4⟩ hb0
        · refine lv_bipush (v := (-2)) hx hb d_Mo_weigh_25 (by decide) ?_
          exact zz_reti C (rfl) hS () (rfl) hP hD d_Mo_weigh_27

set_option maxHeartbeats 4000000 in
set_option maxRecDepth 100000 in
theorem lp_Mo_weigh_0 {p : Program} {l : Launch} {e : Env} {s : State} {m : MethodId} {below : List Frame} {meth : Method} {c : Code} {A : Nat → Prop}  {E : zG} {y0 : Nat} {v1 v2 v3 v4 v5 v6 v7 v8 v9 v10 v11 v12 v13 v14 v15 v16 v17 v18 v19 v20 v21 v22 v23 v24 v25 v26 v27 : Value} {n : Nat} (hn : n < 14) (C : cx p s m #[.ref y0, .int (nI n), .int 0] meth c b_Mo_weigh 5 y_Mo_weigh.cls (some .int)) (hA : ∀ q, s.heap.size ≤ q → A q) (hK : kt E s) (hst : stt A s s.heap) :
    ∀ (f i : Nat) (_ : i + f = 5) (_ : nI (mo_w0 n f i) = wg n 0) (_ : ¬ 3 ^ 5 < n) (H : Heap) (locs : List Loc) (ls : Array Slot), va_P E.1 vwCl [(y0, .inr (7, [.int 0, v1, v2, v3, v4, v5, v6, v7, v8, v9, v10, v11, v12, v13, v14, v15, v16, v17, v18, v19, v20, v21, v22, v23, v24, v25, v26, v27]))] H → va_D A [(y0, .inr (7, [.int 0, v1, v2, v3, v4, v5, v6, v7, v8, v9, v10, v11, v12, v13, v14, v15, v16, v17, v18, v19, v20, v21, v22, v23, v24, v25, v26, v27]))] → va_S A s.heap H locs → lv_has ls 5 [(0, .ref y0), (1, .int (nI n)), (2, .int 0), (3, .int (nI i)), (4, .int (nI (3 ^ i)))] → W p l e (zR 0 0 0 0) s m #[.ref y0, .int (nI n), .int 0] below meth c H locs 0 0 (MQ below ((zQi E (S := Unit) (fun r _ => r = wg n 0) (fun _ => [(y0, .inr (7, [.int 0, v1, v2, v3, v4, v5, v6, v7, v8, v9, v10, v11, v12, v13, v14, v15, v16, v17, v18, v19, v20, v21, v22, v23, v24, v25, v26, v27]))])) A) #[.ref y0, .int (nI n), .int 0] s 0 0 A) (F0 m 45 ls []) := by
  obtain ⟨hx, hb, hr, hml, hown, hts, hlk⟩ := id C
  intro f
  induction f with
  | zero =>
    intro i hi hw h5 H locs ls hP hD hS hl
    have hi : i = 5 := by omega
    subst hi
    refine lv_iload_n hx hb d_Mo_weigh_45 rfl (lv_at hl 2 rfl) ?_
    refine lv_if_ne (tgt := 58) hx hb d_Mo_weigh_46 (by decide) (fun c_5 => ?_) (fun c_5 => ?_)
    · exact absurd c_5 (by decide)
    · refine lv_iload hx hb d_Mo_weigh_49 (lv_at hl 4 rfl) ?_
      refine lv_iload_n hx hb d_Mo_weigh_51 rfl (lv_at hl 1 rfl) ?_
      refine lv_icmp_ge (tgt := 80) hx hb d_Mo_weigh_52 (by decide) (fun c_6 => ?_) (fun c_6 => ?_)
      · refine lv_iload_n hx hb d_Mo_weigh_80 rfl (lv_at hl 3 rfl) ?_
        exact zz_reti C (rfl) hS () (hw) hP hD d_Mo_weigh_81
      · exact absurd (nI_le (Nat.le_of_not_lt h5) (by omega)) c_6
  | succ f ih =>
    intro i hi hw h5 H locs ls hP hD hS hl
    refine lv_iload_n hx hb d_Mo_weigh_45 rfl (lv_at hl 2 rfl) ?_
    refine lv_if_ne (tgt := 58) hx hb d_Mo_weigh_46 (by decide) (fun c_7 => ?_) (fun c_7 => ?_)
    · exact absurd c_7 (by decide)
    · refine lv_iload hx hb d_Mo_weigh_49 (lv_at hl 4 rfl) ?_
      refine lv_iload_n hx hb d_Mo_weigh_51 rfl (lv_at hl 1 rfl) ?_
      refine lv_icmp_ge (tgt := 80) hx hb d_Mo_weigh_52 (by decide) (fun c_8 => ?_) (fun c_8 => ?_)
      · have hc : ¬ 3 ^ i < n := fun z => absurd c_8 (nI_ge z (by omega))
        refine lv_iload_n hx hb d_Mo_weigh_80 rfl (lv_at hl 3 rfl) ?_
        exact zz_reti C (rfl) hS () (by rw [← hw, mo_w0, if_neg hc]) hP hD d_Mo_weigh_81
      · have hc : 3 ^ i < n := zz_ltc c_8 (by have := Nat.pow_le_pow_right (n := 3) (by decide) (show i ≤ 5 by omega); omega)
        refine lv_goto (tgt := 68) hx hb d_Mo_weigh_55 (by decide) ?_
        refine lv_iload hx hb d_Mo_weigh_68 (lv_at hl 4 rfl) ?_
        refine lv_iconst (v := 3) hx hb d_Mo_weigh_70 (by decide) ?_
        refine lv_imul hx hb d_Mo_weigh_71 ?_
        refine zz_eqi (y := nI (3 ^ (i + 1))) (pk_mul _ 3) ?_
        refine lv_istore (lv' := [(4, .int (nI (3 ^ (i + 1)))), (0, .ref y0), (1, .int (nI n)), (2, .int 0), (3, .int (nI i))]) hx hb d_Mo_weigh_72 hl (by decide) rfl (fun ls hl => ?_)
        refine lv_iinc (v := nI (i + 1)) (lv' := [(3, .int (nI (i + 1))), (4, .int (nI (3 ^ (i + 1)))), (0, .ref y0), (1, .int (nI n)), (2, .int 0)]) hx hb d_Mo_weigh_74 hl (k := 4) rfl (nI_1 _) (by decide) rfl (fun ls hl => ?_)
        refine lv_goto (tgt := 45) hx hb d_Mo_weigh_77 (by decide) ?_
        exact ih (i + 1) (by omega) (by rw [← hw, mo_w0, if_pos hc]) h5 _ _ ls hP hD hS (lv_sub hl [2, 3, 4, 0, 1] rfl)

set_option maxHeartbeats 4000000 in
set_option maxRecDepth 100000 in
theorem c_Mo_weigh_0 (l : Launch) (E : zG) (y0 : Nat) (v1 v2 v3 v4 v5 v6 v7 v8 v9 v10 v11 v12 v13 v14 v15 v16 v17 v18 v19 v20 v21 v22 v23 v24 v25 v26 v27 : Value) (th : Int32) (n : Nat) (hn : n < 14) (hn1 : 1 ≤ n) : zMet l y_Mo_weigh b_Mo_weigh 5 (some .int) 0 0 0 0 E [.ref y0, .int (nI n), .int 0] [(y0, .inr (7, [.int th, v1, v2, v3, v4, v5, v6, v7, v8, v9, v10, v11, v12, v13, v14, v15, v16, v17, v18, v19, v20, v21, v22, v23, v24, v25, v26, v27]))] (zQi E (S := Unit) (fun r _ => r = wg n 0) (fun _ => [(y0, .inr (7, [.int 0, v1, v2, v3, v4, v5, v6, v7, v8, v9, v10, v11, v12, v13, v14, v15, v16, v17, v18, v19, v20, v21, v22, v23, v24, v25, v26, v27]))])) := by
  refine zz_met (by decide +kernel) (Nat.le_of_ble_eq_true rfl) ?_
  intro p e s m below meth c A ls C hin hA hK hst hP hD hl
  obtain ⟨hx, hb, hr, hml, hown, hts, hlk⟩ := id C
  have hS : va_S A s.heap s.heap [] := va_S.rf
  have hl : lv_has ls 5 [(0, .ref y0), (1, .int (nI n)), (2, .int 0)] := hl
  refine lv_aload_n hx hb d_Mo_weigh_0 rfl (lv_at hl 0 rfl) ?_
  refine lv_iconst (v := 0) hx hb d_Mo_weigh_1 (by decide) ?_
  refine zz_put C hK hP hD hS fl_Mo_72 0 rfl rfl rfl (Nat.le_of_ble_eq_true rfl) d_Mo_weigh_2 (fun H locs hP hD hS => ?_)
  have hP : va_P E.1 vwCl [(y0, .inr (7, [.int 0, v1, v2, v3, v4, v5, v6, v7, v8, v9, v10, v11, v12, v13, v14, v15, v16, v17, v18, v19, v20, v21, v22, v23, v24, v25, v26, v27]))] H := hP
  have hD : va_D A [(y0, .inr (7, [.int 0, v1, v2, v3, v4, v5, v6, v7, v8, v9, v10, v11, v12, v13, v14, v15, v16, v17, v18, v19, v20, v21, v22, v23, v24, v25, v26, v27]))] := hD
  refine lv_iload_n hx hb d_Mo_weigh_5 rfl (lv_at hl 1 rfl) ?_
  refine lv_iconst (v := 1) hx hb d_Mo_weigh_6 (by decide) ?_
  refine lv_icmp_lt (tgt := 25) hx hb d_Mo_weigh_7 (by decide) (fun c_9 => ?_) (fun c_9 => ?_)
  · exact absurd c_9 (nI_nlt (b := 1) (by omega) (by omega))
  · refine lv_iload_n hx hb d_Mo_weigh_10 rfl (lv_at hl 1 rfl) ?_
    refine lv_bipush (v := 13) hx hb d_Mo_weigh_11 (by decide) ?_
    refine lv_icmp_gt (tgt := 25) hx hb d_Mo_weigh_13 (by decide) (fun c_10 => ?_) (fun c_10 => ?_)
    · exact absurd c_10 (nI_nlt (a := 13) (by omega) (by decide))
    · refine lv_iload_n hx hb d_Mo_weigh_16 rfl (lv_at hl 2 rfl) ?_
      refine lv_if_eq (tgt := 28) hx hb d_Mo_weigh_17 (by decide) (fun c_11 => ?_) (fun c_11 => ?_)
      · refine lv_iload_n hx hb d_Mo_weigh_28 rfl (lv_at hl 2 rfl) ?_
        refine lv_iconst (v := 1) hx hb d_Mo_weigh_29 (by decide) ?_
        refine lv_icmp_ne (tgt := 40) hx hb d_Mo_weigh_30 (by decide) (fun c_12 => ?_) (fun c_12 => ?_)
        · refine lv_iconst (v := 0) hx hb d_Mo_weigh_40 (by decide) ?_
          refine zz_eqi (y := nI 0) (rfl) ?_
          refine lv_istore_n (lv' := [(3, .int (nI 0)), (0, .ref y0), (1, .int (nI n)), (2, .int 0)]) hx hb d_Mo_weigh_41 rfl hl (by decide) rfl (fun ls hl => ?_)
          refine lv_iconst (v := 1) hx hb d_Mo_weigh_42 (by decide) ?_
          refine zz_eqi (y := nI (3 ^ 0)) (rfl) ?_
          refine lv_istore (lv' := [(4, .int (nI (3 ^ 0))), (3, .int (nI 0)), (0, .ref y0), (1, .int (nI n)), (2, .int 0)]) hx hb d_Mo_weigh_43 hl (by decide) rfl (fun ls hl => ?_)
          exact lp_Mo_weigh_0 hn C hA hK hst 5 0 (by omega) (mo_w0_ok n hn).1 (mo_w0_ok n hn).2 _ _ ls hP hD hS (lv_sub hl [2, 3, 4, 1, 0] rfl)
        · exact absurd c_12 (by decide)
      · exact absurd rfl c_11

set_option maxHeartbeats 4000000 in
set_option maxRecDepth 100000 in
theorem lp_Mo_weigh_1 {p : Program} {l : Launch} {e : Env} {s : State} {m : MethodId} {below : List Frame} {meth : Method} {c : Code} {A : Nat → Prop}  {E : zG} {y0 : Nat} {v1 v2 v3 v4 v5 v6 v7 v8 v9 v10 v11 v12 v13 v14 v15 v16 v17 v18 v19 v20 v21 v22 v23 v24 v25 v26 v27 : Value} {n : Nat} (hn : n < 14) (C : cx p s m #[.ref y0, .int (nI n), .int 1] meth c b_Mo_weigh 5 y_Mo_weigh.cls (some .int)) (hA : ∀ q, s.heap.size ≤ q → A q) (hK : kt E s) (hst : stt A s s.heap) :
    ∀ (f i : Nat) (_ : i + f = 5) (_ : nI (mo_w1 n f i) = wg n 1) (_ : ¬ (nI (3 ^ 5) - 3) / 2 < nI n) (H : Heap) (locs : List Loc) (ls : Array Slot), va_P E.1 vwCl [(y0, .inr (7, [.int 0, v1, v2, v3, v4, v5, v6, v7, v8, v9, v10, v11, v12, v13, v14, v15, v16, v17, v18, v19, v20, v21, v22, v23, v24, v25, v26, v27]))] H → va_D A [(y0, .inr (7, [.int 0, v1, v2, v3, v4, v5, v6, v7, v8, v9, v10, v11, v12, v13, v14, v15, v16, v17, v18, v19, v20, v21, v22, v23, v24, v25, v26, v27]))] → va_S A s.heap H locs → lv_has ls 5 [(0, .ref y0), (1, .int (nI n)), (2, .int 1), (3, .int (nI i)), (4, .int (nI (3 ^ i)))] → W p l e (zR 0 0 0 0) s m #[.ref y0, .int (nI n), .int 1] below meth c H locs 0 0 (MQ below ((zQi E (S := Unit) (fun r _ => r = wg n 1) (fun _ => [(y0, .inr (7, [.int 0, v1, v2, v3, v4, v5, v6, v7, v8, v9, v10, v11, v12, v13, v14, v15, v16, v17, v18, v19, v20, v21, v22, v23, v24, v25, v26, v27]))])) A) #[.ref y0, .int (nI n), .int 1] s 0 0 A) (F0 m 45 ls []) := by
  obtain ⟨hx, hb, hr, hml, hown, hts, hlk⟩ := id C
  intro f
  induction f with
  | zero =>
    intro i hi hw h5 H locs ls hP hD hS hl
    have hi : i = 5 := by omega
    subst hi
    refine lv_iload_n hx hb d_Mo_weigh_45 rfl (lv_at hl 2 rfl) ?_
    refine lv_if_ne (tgt := 58) hx hb d_Mo_weigh_46 (by decide) (fun c_13 => ?_) (fun c_13 => ?_)
    · refine lv_iload hx hb d_Mo_weigh_58 (lv_at hl 4 rfl) ?_
      refine lv_iconst (v := 3) hx hb d_Mo_weigh_60 (by decide) ?_
      refine lv_isub hx hb d_Mo_weigh_61 ?_
      refine lv_iconst (v := 2) hx hb d_Mo_weigh_62 (by decide) ?_
      refine lv_idiv hx hb d_Mo_weigh_63 (by decide) ?_
      refine lv_iload_n hx hb d_Mo_weigh_64 rfl (lv_at hl 1 rfl) ?_
      refine lv_icmp_ge (tgt := 80) hx hb d_Mo_weigh_65 (by decide) (fun c_14 => ?_) (fun c_14 => ?_)
      · refine lv_iload_n hx hb d_Mo_weigh_80 rfl (lv_at hl 3 rfl) ?_
        exact zz_reti C (rfl) hS () (hw) hP hD d_Mo_weigh_81
      · exact absurd (zz_nlt h5) c_14
    · exact absurd c_13 (by decide)
  | succ f ih =>
    intro i hi hw h5 H locs ls hP hD hS hl
    refine lv_iload_n hx hb d_Mo_weigh_45 rfl (lv_at hl 2 rfl) ?_
    refine lv_if_ne (tgt := 58) hx hb d_Mo_weigh_46 (by decide) (fun c_15 => ?_) (fun c_15 => ?_)
    · refine lv_iload hx hb d_Mo_weigh_58 (lv_at hl 4 rfl) ?_
      refine lv_iconst (v := 3) hx hb d_Mo_weigh_60 (by decide) ?_
      refine lv_isub hx hb d_Mo_weigh_61 ?_
      refine lv_iconst (v := 2) hx hb d_Mo_weigh_62 (by decide) ?_
      refine lv_idiv hx hb d_Mo_weigh_63 (by decide) ?_
      refine lv_iload_n hx hb d_Mo_weigh_64 rfl (lv_at hl 1 rfl) ?_
      refine lv_icmp_ge (tgt := 80) hx hb d_Mo_weigh_65 (by decide) (fun c_16 => ?_) (fun c_16 => ?_)
      · have hc : ¬ (nI (3 ^ i) - 3) / 2 < nI n := fun z => absurd c_16 (zz_nle z)
        refine lv_iload_n hx hb d_Mo_weigh_80 rfl (lv_at hl 3 rfl) ?_
        exact zz_reti C (rfl) hS () (by rw [← hw, mo_w1, if_neg hc]) hP hD d_Mo_weigh_81
      · have hc : (nI (3 ^ i) - 3) / 2 < nI n := by
          refine Classical.byContradiction (fun z => c_16 (zz_nlt z))
        refine lv_iload hx hb d_Mo_weigh_68 (lv_at hl 4 rfl) ?_
        refine lv_iconst (v := 3) hx hb d_Mo_weigh_70 (by decide) ?_
        refine lv_imul hx hb d_Mo_weigh_71 ?_
        refine zz_eqi (y := nI (3 ^ (i + 1))) (pk_mul _ 3) ?_
        refine lv_istore (lv' := [(4, .int (nI (3 ^ (i + 1)))), (0, .ref y0), (1, .int (nI n)), (2, .int 1), (3, .int (nI i))]) hx hb d_Mo_weigh_72 hl (by decide) rfl (fun ls hl => ?_)
        refine lv_iinc (v := nI (i + 1)) (lv' := [(3, .int (nI (i + 1))), (4, .int (nI (3 ^ (i + 1)))), (0, .ref y0), (1, .int (nI n)), (2, .int 1)]) hx hb d_Mo_weigh_74 hl (k := 4) rfl (nI_1 _) (by decide) rfl (fun ls hl => ?_)
        refine lv_goto (tgt := 45) hx hb d_Mo_weigh_77 (by decide) ?_
        exact ih (i + 1) (by omega) (by rw [← hw, mo_w1, if_pos hc]) h5 _ _ ls hP hD hS (lv_sub hl [2, 3, 4, 0, 1] rfl)
    · exact absurd c_15 (by decide)

set_option maxHeartbeats 4000000 in
set_option maxRecDepth 100000 in
theorem c_Mo_weigh_1 (l : Launch) (E : zG) (y0 : Nat) (v1 v2 v3 v4 v5 v6 v7 v8 v9 v10 v11 v12 v13 v14 v15 v16 v17 v18 v19 v20 v21 v22 v23 v24 v25 v26 v27 : Value) (th : Int32) (n : Nat) (hn : n < 14) (hn1 : 3 ≤ n) : zMet l y_Mo_weigh b_Mo_weigh 5 (some .int) 0 0 0 0 E [.ref y0, .int (nI n), .int 1] [(y0, .inr (7, [.int th, v1, v2, v3, v4, v5, v6, v7, v8, v9, v10, v11, v12, v13, v14, v15, v16, v17, v18, v19, v20, v21, v22, v23, v24, v25, v26, v27]))] (zQi E (S := Unit) (fun r _ => r = wg n 1) (fun _ => [(y0, .inr (7, [.int 0, v1, v2, v3, v4, v5, v6, v7, v8, v9, v10, v11, v12, v13, v14, v15, v16, v17, v18, v19, v20, v21, v22, v23, v24, v25, v26, v27]))])) := by
  refine zz_met (by decide +kernel) (Nat.le_of_ble_eq_true rfl) ?_
  intro p e s m below meth c A ls C hin hA hK hst hP hD hl
  obtain ⟨hx, hb, hr, hml, hown, hts, hlk⟩ := id C
  have hS : va_S A s.heap s.heap [] := va_S.rf
  have hl : lv_has ls 5 [(0, .ref y0), (1, .int (nI n)), (2, .int 1)] := hl
  refine lv_aload_n hx hb d_Mo_weigh_0 rfl (lv_at hl 0 rfl) ?_
  refine lv_iconst (v := 0) hx hb d_Mo_weigh_1 (by decide) ?_
  refine zz_put C hK hP hD hS fl_Mo_72 0 rfl rfl rfl (Nat.le_of_ble_eq_true rfl) d_Mo_weigh_2 (fun H locs hP hD hS => ?_)
  have hP : va_P E.1 vwCl [(y0, .inr (7, [.int 0, v1, v2, v3, v4, v5, v6, v7, v8, v9, v10, v11, v12, v13, v14, v15, v16, v17, v18, v19, v20, v21, v22, v23, v24, v25, v26, v27]))] H := hP
  have hD : va_D A [(y0, .inr (7, [.int 0, v1, v2, v3, v4, v5, v6, v7, v8, v9, v10, v11, v12, v13, v14, v15, v16, v17, v18, v19, v20, v21, v22, v23, v24, v25, v26, v27]))] := hD
  refine lv_iload_n hx hb d_Mo_weigh_5 rfl (lv_at hl 1 rfl) ?_
  refine lv_iconst (v := 1) hx hb d_Mo_weigh_6 (by decide) ?_
  refine lv_icmp_lt (tgt := 25) hx hb d_Mo_weigh_7 (by decide) (fun c_17 => ?_) (fun c_17 => ?_)
  · exact absurd c_17 (nI_nlt (b := 1) (by omega) (by omega))
  · refine lv_iload_n hx hb d_Mo_weigh_10 rfl (lv_at hl 1 rfl) ?_
    refine lv_bipush (v := 13) hx hb d_Mo_weigh_11 (by decide) ?_
    refine lv_icmp_gt (tgt := 25) hx hb d_Mo_weigh_13 (by decide) (fun c_18 => ?_) (fun c_18 => ?_)
    · exact absurd c_18 (nI_nlt (a := 13) (by omega) (by decide))
    · refine lv_iload_n hx hb d_Mo_weigh_16 rfl (lv_at hl 2 rfl) ?_
      refine lv_if_eq (tgt := 28) hx hb d_Mo_weigh_17 (by decide) (fun c_19 => ?_) (fun c_19 => ?_)
      · exact absurd c_19 (by decide)
      · refine lv_iload_n hx hb d_Mo_weigh_20 rfl (lv_at hl 2 rfl) ?_
        refine lv_iconst (v := 1) hx hb d_Mo_weigh_21 (by decide) ?_
        refine lv_icmp_eq (tgt := 28) hx hb d_Mo_weigh_22 (by decide) (fun c_20 => ?_) (fun c_20 => ?_)
        · refine lv_iload_n hx hb d_Mo_weigh_28 rfl (lv_at hl 2 rfl) ?_
          refine lv_iconst (v := 1) hx hb d_Mo_weigh_29 (by decide) ?_
          refine lv_icmp_ne (tgt := 40) hx hb d_Mo_weigh_30 (by decide) (fun c_21 => ?_) (fun c_21 => ?_)
          · exact absurd rfl c_21
          · refine lv_iload_n hx hb d_Mo_weigh_33 rfl (lv_at hl 1 rfl) ?_
            refine lv_iconst (v := 3) hx hb d_Mo_weigh_34 (by decide) ?_
            refine lv_icmp_ge (tgt := 40) hx hb d_Mo_weigh_35 (by decide) (fun c_22 => ?_) (fun c_22 => ?_)
            · refine lv_iconst (v := 0) hx hb d_Mo_weigh_40 (by decide) ?_
              refine zz_eqi (y := nI 0) (rfl) ?_
              refine lv_istore_n (lv' := [(3, .int (nI 0)), (0, .ref y0), (1, .int (nI n)), (2, .int 1)]) hx hb d_Mo_weigh_41 rfl hl (by decide) rfl (fun ls hl => ?_)
              refine lv_iconst (v := 1) hx hb d_Mo_weigh_42 (by decide) ?_
              refine zz_eqi (y := nI (3 ^ 0)) (rfl) ?_
              refine lv_istore (lv' := [(4, .int (nI (3 ^ 0))), (3, .int (nI 0)), (0, .ref y0), (1, .int (nI n)), (2, .int 1)]) hx hb d_Mo_weigh_43 hl (by decide) rfl (fun ls hl => ?_)
              exact lp_Mo_weigh_1 hn C hA hK hst 5 0 (by omega) (mo_w1_ok n hn hn1).1 (mo_w1_ok n hn hn1).2 _ _ ls hP hD hS (lv_sub hl [2, 3, 4, 1, 0] rfl)
            · exact absurd (nI_le (a := 3) hn1 (by omega)) c_22
        · exact absurd rfl c_20

set_option maxHeartbeats 4000000 in
set_option maxRecDepth 100000 in
theorem c_Mo_weigh_few (l : Launch) (E : zG) (y0 : Nat) (v1 v2 v3 v4 v5 v6 v7 v8 v9 v10 v11 v12 v13 v14 v15 v16 v17 v18 v19 v20 v21 v22 v23 v24 v25 v26 v27 : Value) (th : Int32) (n : Nat) (hn1 : 1 ≤ n) (hn : n < 3) : zMet l y_Mo_weigh b_Mo_weigh 5 (some .int) 0 0 0 0 E [.ref y0, .int (nI n), .int 1] [(y0, .inr (7, [.int th, v1, v2, v3, v4, v5, v6, v7, v8, v9, v10, v11, v12, v13, v14, v15, v16, v17, v18, v19, v20, v21, v22, v23, v24, v25, v26, v27]))] (zQi E (S := Unit) (fun r _ => r = -1) (fun _ => [(y0, .inr (7, [.int 0, v1, v2, v3, v4, v5, v6, v7, v8, v9, v10, v11, v12, v13, v14, v15, v16, v17, v18, v19, v20, v21, v22, v23, v24, v25, v26, v27]))])) := by
  refine zz_met (by decide +kernel) (Nat.le_of_ble_eq_true rfl) ?_
  intro p e s m below meth c A ls C hin hA hK hst hP hD hl
  obtain ⟨hx, hb, hr, hml, hown, hts, hlk⟩ := id C
  have hS : va_S A s.heap s.heap [] := va_S.rf
  have hl : lv_has ls 5 [(0, .ref y0), (1, .int (nI n)), (2, .int 1)] := hl
  refine lv_aload_n hx hb d_Mo_weigh_0 rfl (lv_at hl 0 rfl) ?_
  refine lv_iconst (v := 0) hx hb d_Mo_weigh_1 (by decide) ?_
  refine zz_put C hK hP hD hS fl_Mo_72 0 rfl rfl rfl (Nat.le_of_ble_eq_true rfl) d_Mo_weigh_2 (fun H locs hP hD hS => ?_)
  have hP : va_P E.1 vwCl [(y0, .inr (7, [.int 0, v1, v2, v3, v4, v5, v6, v7, v8, v9, v10, v11, v12, v13, v14, v15, v16, v17, v18, v19, v20, v21, v22, v23, v24, v25, v26, v27]))] H := hP
  have hD : va_D A [(y0, .inr (7, [.int 0, v1, v2, v3, v4, v5, v6, v7, v8, v9, v10, v11, v12, v13, v14, v15, v16, v17, v18, v19, v20, v21, v22, v23, v24, v25, v26, v27]))] := hD
  refine lv_iload_n hx hb d_Mo_weigh_5 rfl (lv_at hl 1 rfl) ?_
  refine lv_iconst (v := 1) hx hb d_Mo_weigh_6 (by decide) ?_
  refine lv_icmp_lt (tgt := 25) hx hb d_Mo_weigh_7 (by decide) (fun c_23 => ?_) (fun c_23 => ?_)
  · exact absurd c_23 (nI_nlt (b := 1) (by omega) (by omega))
  · refine lv_iload_n hx hb d_Mo_weigh_10 rfl (lv_at hl 1 rfl) ?_
    refine lv_bipush (v := 13) hx hb d_Mo_weigh_11 (by decide) ?_
    refine lv_icmp_gt (tgt := 25) hx hb d_Mo_weigh_13 (by decide) (fun c_24 => ?_) (fun c_24 => ?_)
    · exact absurd c_24 (nI_nlt (a := 13) (by omega) (by decide))
    · refine lv_iload_n hx hb d_Mo_weigh_16 rfl (lv_at hl 2 rfl) ?_
      refine lv_if_eq (tgt := 28) hx hb d_Mo_weigh_17 (by decide) (fun c_25 => ?_) (fun c_25 => ?_)
      · exact absurd c_25 (by decide)
      · refine lv_iload_n hx hb d_Mo_weigh_20 rfl (lv_at hl 2 rfl) ?_
        refine lv_iconst (v := 1) hx hb d_Mo_weigh_21 (by decide) ?_
        refine lv_icmp_eq (tgt := 28) hx hb d_Mo_weigh_22 (by decide) (fun c_26 => ?_) (fun c_26 => ?_)
        · refine lv_iload_n hx hb d_Mo_weigh_28 rfl (lv_at hl 2 rfl) ?_
          refine lv_iconst (v := 1) hx hb d_Mo_weigh_29 (by decide) ?_
          refine lv_icmp_ne (tgt := 40) hx hb d_Mo_weigh_30 (by decide) (fun c_27 => ?_) (fun c_27 => ?_)
          · exact absurd rfl c_27
          · refine lv_iload_n hx hb d_Mo_weigh_33 rfl (lv_at hl 1 rfl) ?_
            refine lv_iconst (v := 3) hx hb d_Mo_weigh_34 (by decide) ?_
            refine lv_icmp_ge (tgt := 40) hx hb d_Mo_weigh_35 (by decide) (fun c_28 => ?_) (fun c_28 => ?_)
            · exact absurd c_28 (nI_ge (b := 3) hn (by decide))
            · refine lv_iconst (v := (-1)) hx hb d_Mo_weigh_38 (by decide) ?_
              exact zz_reti C (rfl) hS () (rfl) hP hD d_Mo_weigh_39
        · exact absurd rfl c_26

set_option maxHeartbeats 4000000 in
set_option maxRecDepth 100000 in
theorem lp_Mo_take {p : Program} {l : Launch} {e : Env} {s : State} {m : MethodId} {below : List Frame} {meth : Method} {c : Code} {A : Nat → Prop}  {E : zG} {y0 : Nat} {v0 v1 v2 v3 v4 v5 v6 v7 v8 v9 v10 v11 v12 v13 v14 v15 v17 v18 v19 v20 v21 v22 v23 v24 v25 v26 v27 : Value} {z4 x : Nat} (hx0 : x < 10000) (C : cx p s m #[.ref y0, .int (nI x)] meth c b_Mo_take 4 y_Mo_take.cls none) (hA : ∀ q, s.heap.size ≤ q → A q) (hK : kt E s) (hst : stt A s s.heap) :
    ∀ (f i : Nat) (g : Nat → Int32) (_ : i + f = 4) (_ : ∀ j, j < i → g j = nI (jg_d x j)) (H : Heap) (locs : List Loc) (ls : Array Slot), va_P E.1 vwCl [(y0, .inr (7, [v0, v1, v2, v3, v4, v5, v6, v7, v8, v9, v10, v11, v12, v13, v14, v15, .ref z4, v17, v18, v19, v20, v21, v22, v23, v24, v25, v26, v27])), (z4, zI E 4 g)] H → va_D A [(y0, .inr (7, [v0, v1, v2, v3, v4, v5, v6, v7, v8, v9, v10, v11, v12, v13, v14, v15, .ref z4, v17, v18, v19, v20, v21, v22, v23, v24, v25, v26, v27])), (z4, zI E 4 g)] → va_S A s.heap H locs → lv_has ls 4 [(0, .ref y0), (1, .int (nI x)), (2, .int (nI (x / 10 ^ i))), (3, .int (nI i))] → W p l e (zR 0 0 0 0) s m #[.ref y0, .int (nI x)] below meth c H locs 0 0 (MQ below ((zQv E (S := Nat → Int32) (fun u => ∀ j, j < 4 → u j = nI (jg_d x j)) (fun u => [(y0, .inr (7, [v0, v1, v2, v3, v4, v5, v6, v7, v8, v9, v10, v11, v12, v13, v14, v15, .ref z4, v17, v18, v19, v20, v21, v22, v23, v24, v25, v26, v27])), (z4, zI E 4 u)])) A) #[.ref y0, .int (nI x)] s 0 0 A) (F0 m 4 ls []) := by
  obtain ⟨hx, hb, hr, hml, hown, hts, hlk⟩ := id C
  intro f
  induction f with
  | zero =>
    intro i g hi hg H locs ls hP hD hS hl
    have hi : i = 4 := by omega
    subst hi
    refine lv_iload_n hx hb d_Mo_take_4 rfl (lv_at hl 3 rfl) ?_
    refine lv_iconst (v := 4) hx hb d_Mo_take_5 (by decide) ?_
    refine lv_icmp_ge (tgt := 30) hx hb d_Mo_take_6 (by decide) (fun c_29 => ?_) (fun c_29 => ?_)
    · exact zz_retv C hS g (hg) hP hD d_Mo_take_30
    · exact absurd (nI_le (b := 4) (Nat.le_refl _) (by decide)) c_29
  | succ f ih =>
    intro i g hi hg H locs ls hP hD hS hl
    have hy : x / 10 ^ i < 10000 := Nat.lt_of_le_of_lt (Nat.div_le_self _ _) hx0
    refine lv_iload_n hx hb d_Mo_take_4 rfl (lv_at hl 3 rfl) ?_
    refine lv_iconst (v := 4) hx hb d_Mo_take_5 (by decide) ?_
    refine lv_icmp_ge (tgt := 30) hx hb d_Mo_take_6 (by decide) (fun c_30 => ?_) (fun c_30 => ?_)
    · exact absurd c_30 (nI_ge (b := 4) (by omega) (by decide))
    · refine lv_aload_n hx hb d_Mo_take_9 rfl (lv_at hl 0 rfl) ?_
      refine zz_get C hK hP fl_Mo_44 0 rfl rfl d_Mo_take_10 ?_
      refine lv_iload_n hx hb d_Mo_take_13 rfl (lv_at hl 3 rfl) ?_
      refine lv_iload_n hx hb d_Mo_take_14 rfl (lv_at hl 2 rfl) ?_
      refine lv_bipush (v := 10) hx hb d_Mo_take_15 (by decide) ?_
      refine lv_irem hx hb d_Mo_take_17 (by decide) ?_
      refine zz_eqi (y := nI (jg_d x i)) (pk_rem (by omega) (by decide) (by decide)) ?_
      refine zz_iastN C hK hP hD hS 1 rfl (j := i) (by omega) (by omega) d_Mo_take_18 (fun H locs hP hD hS => ?_)
      have hP : va_P E.1 vwCl [(y0, .inr (7, [v0, v1, v2, v3, v4, v5, v6, v7, v8, v9, v10, v11, v12, v13, v14, v15, .ref z4, v17, v18, v19, v20, v21, v22, v23, v24, v25, v26, v27])), (z4, zI E 4 (upd g i (nI (jg_d x i))))] H := hP
      have hD : va_D A [(y0, .inr (7, [v0, v1, v2, v3, v4, v5, v6, v7, v8, v9, v10, v11, v12, v13, v14, v15, .ref z4, v17, v18, v19, v20, v21, v22, v23, v24, v25, v26, v27])), (z4, zI E 4 (upd g i (nI (jg_d x i))))] := hD
      refine lv_iload_n hx hb d_Mo_take_19 rfl (lv_at hl 2 rfl) ?_
      refine lv_bipush (v := 10) hx hb d_Mo_take_20 (by decide) ?_
      refine lv_idiv hx hb d_Mo_take_22 (by decide) ?_
      refine zz_eqi (y := nI (x / 10 ^ (i + 1))) ((pk_div (d := 10) (by omega) (by decide) (by decide)).trans (by rw [Nat.div_div_eq_div_mul, ← Nat.pow_succ])) ?_
      refine lv_istore_n (lv' := [(2, .int (nI (x / 10 ^ (i + 1)))), (0, .ref y0), (1, .int (nI x)), (3, .int (nI i))]) hx hb d_Mo_take_23 rfl hl (by decide) rfl (fun ls hl => ?_)
      refine lv_iinc (v := nI (i + 1)) (lv' := [(3, .int (nI (i + 1))), (2, .int (nI (x / 10 ^ (i + 1)))), (0, .ref y0), (1, .int (nI x))]) hx hb d_Mo_take_24 hl (k := 3) rfl (nI_1 _) (by decide) rfl (fun ls hl => ?_)
      refine lv_goto (tgt := 4) hx hb d_Mo_take_27 (by decide) ?_
      exact ih (i + 1) (upd g i (nI (jg_d x i))) (by omega) (fun j hj => by
                  by_cases e : j = i
                  · subst e; exact pk_us
                  · rw [pk_un e]; exact hg j (by omega)) _ _ ls hP hD hS (lv_sub hl [2, 3, 1, 0] rfl)

set_option maxHeartbeats 4000000 in
set_option maxRecDepth 100000 in
theorem c_Mo_take (l : Launch) (E : zG) (y0 : Nat) (v0 v1 v2 v3 v4 v5 v6 v7 v8 v9 v10 v11 v12 v13 v14 v15 v17 v18 v19 v20 v21 v22 v23 v24 v25 v26 v27 : Value) (z4 x : Nat) (fH : Nat → Int32) (hx0 : x < 10000) : zMet l y_Mo_take b_Mo_take 4 none 0 0 0 0 E [.ref y0, .int (nI x)] [(y0, .inr (7, [v0, v1, v2, v3, v4, v5, v6, v7, v8, v9, v10, v11, v12, v13, v14, v15, .ref z4, v17, v18, v19, v20, v21, v22, v23, v24, v25, v26, v27])), (z4, zI E 4 fH)] (zQv E (S := Nat → Int32) (fun u => ∀ j, j < 4 → u j = nI (jg_d x j)) (fun u => [(y0, .inr (7, [v0, v1, v2, v3, v4, v5, v6, v7, v8, v9, v10, v11, v12, v13, v14, v15, .ref z4, v17, v18, v19, v20, v21, v22, v23, v24, v25, v26, v27])), (z4, zI E 4 u)])) := by
  refine zz_met (by decide +kernel) (Nat.le_of_ble_eq_true rfl) ?_
  intro p e s m below meth c A ls C hin hA hK hst hP hD hl
  obtain ⟨hx, hb, hr, hml, hown, hts, hlk⟩ := id C
  have hS : va_S A s.heap s.heap [] := va_S.rf
  have hl : lv_has ls 4 [(0, .ref y0), (1, .int (nI x))] := hl
  refine lv_iload_n hx hb d_Mo_take_0 rfl (lv_at hl 1 rfl) ?_
  refine lv_istore_n (lv' := [(2, .int (nI x)), (0, .ref y0), (1, .int (nI x))]) hx hb d_Mo_take_1 rfl hl (by decide) rfl (fun ls hl => ?_)
  refine lv_iconst (v := 0) hx hb d_Mo_take_2 (by decide) ?_
  refine lv_istore_n (lv' := [(3, .int 0), (2, .int (nI x)), (0, .ref y0), (1, .int (nI x))]) hx hb d_Mo_take_3 rfl hl (by decide) rfl (fun ls hl => ?_)
  have hl := lv_sub (l' := [(0, .ref y0), (1, .int (nI x)), (2, .int (nI (x / 10 ^ 0))), (3, .int (nI 0))]) hl [2, 3, 1, 0] (by rw [Nat.pow_zero, Nat.div_one]; rfl)
  exact lp_Mo_take hx0 C hA hK hst 4 0 fH (by omega) (fun j hj => absurd hj (Nat.not_lt_zero j)) _ _ ls hP hD hS hl

set_option maxHeartbeats 4000000 in
set_option maxRecDepth 100000 in
theorem c_Mo_code (l : Launch) (E : zG) (y0 : Nat) (v0 v1 v2 v3 v4 v5 v6 v7 v8 v9 v10 v11 v12 v13 v14 v15 v17 v18 v19 v20 v21 v22 v23 v24 v25 v26 v27 : Value) (z4 : Nat) (fH : Nat → Int32) (h : Nat → Nat) (hh : ∀ j, j < 4 → fH j = nI (h j)) : zMet l y_Mo_code b_Mo_code 1 (some .int) 0 0 0 0 E [.ref y0] [(y0, .inr (7, [v0, v1, v2, v3, v4, v5, v6, v7, v8, v9, v10, v11, v12, v13, v14, v15, .ref z4, v17, v18, v19, v20, v21, v22, v23, v24, v25, v26, v27])), (z4, zI E 4 fH)] (zQi E (S := Unit) (fun r _ => r = nI (mo_code h)) (fun _ => [(y0, .inr (7, [v0, v1, v2, v3, v4, v5, v6, v7, v8, v9, v10, v11, v12, v13, v14, v15, .ref z4, v17, v18, v19, v20, v21, v22, v23, v24, v25, v26, v27])), (z4, zI E 4 fH)])) := by
  refine zz_met (by decide +kernel) (Nat.le_of_ble_eq_true rfl) ?_
  intro p e s m below meth c A ls C hin hA hK hst hP hD hl
  obtain ⟨hx, hb, hr, hml, hown, hts, hlk⟩ := id C
  have hS : va_S A s.heap s.heap [] := va_S.rf
  have hl : lv_has ls 1 [(0, .ref y0)] := hl
  refine lv_aload_n hx hb d_Mo_code_0 rfl (lv_at hl 0 rfl) ?_
  refine zz_get C hK hP fl_Mo_44 0 rfl rfl d_Mo_code_1 ?_
  refine lv_iconst (v := 0) hx hb d_Mo_code_4 (by decide) ?_
  refine zz_eqi (y := nI 0) (rfl) ?_
  refine zz_ialdN C hK hP 1 rfl (j := 0) (by decide) (by omega) d_Mo_code_5 ?_
  refine lv_bipush (v := 10) hx hb d_Mo_code_6 (by decide) ?_
  refine lv_aload_n hx hb d_Mo_code_8 rfl (lv_at hl 0 rfl) ?_
  refine zz_get C hK hP fl_Mo_44 0 rfl rfl d_Mo_code_9 ?_
  refine lv_iconst (v := 1) hx hb d_Mo_code_12 (by decide) ?_
  refine zz_eqi (y := nI 1) (rfl) ?_
  refine zz_ialdN C hK hP 1 rfl (j := 1) (by decide) (by omega) d_Mo_code_13 ?_
  refine lv_imul hx hb d_Mo_code_14 ?_
  refine zz_eqi (y := nI (10 * h 1)) (by rw [hh 1 (by decide)]; exact pk_mul 10 _) ?_
  refine lv_iadd hx hb d_Mo_code_15 ?_
  refine zz_eqi (y := nI (h 0 + 10 * h 1)) (by rw [hh 0 (by decide)]; exact nI_add _ _) ?_
  refine lv_bipush (v := 100) hx hb d_Mo_code_16 (by decide) ?_
  refine lv_aload_n hx hb d_Mo_code_18 rfl (lv_at hl 0 rfl) ?_
  refine zz_get C hK hP fl_Mo_44 0 rfl rfl d_Mo_code_19 ?_
  refine lv_iconst (v := 2) hx hb d_Mo_code_22 (by decide) ?_
  refine zz_eqi (y := nI 2) (rfl) ?_
  refine zz_ialdN C hK hP 1 rfl (j := 2) (by decide) (by omega) d_Mo_code_23 ?_
  refine lv_imul hx hb d_Mo_code_24 ?_
  refine zz_eqi (y := nI (100 * h 2)) (by rw [hh 2 (by decide)]; exact pk_mul 100 _) ?_
  refine lv_iadd hx hb d_Mo_code_25 ?_
  refine zz_eqi (y := nI (h 0 + 10 * h 1 + 100 * h 2)) (nI_add _ _) ?_
  refine lv_sipush (v := 1000) hx hb d_Mo_code_26 (by decide) ?_
  refine lv_aload_n hx hb d_Mo_code_29 rfl (lv_at hl 0 rfl) ?_
  refine zz_get C hK hP fl_Mo_44 0 rfl rfl d_Mo_code_30 ?_
  refine lv_iconst (v := 3) hx hb d_Mo_code_33 (by decide) ?_
  refine zz_eqi (y := nI 3) (rfl) ?_
  refine zz_ialdN C hK hP 1 rfl (j := 3) (by decide) (by omega) d_Mo_code_34 ?_
  refine lv_imul hx hb d_Mo_code_35 ?_
  refine zz_eqi (y := nI (1000 * h 3)) (by rw [hh 3 (by decide)]; exact pk_mul 1000 _) ?_
  refine lv_iadd hx hb d_Mo_code_36 ?_
  refine zz_eqi (y := nI (h 0 + 10 * h 1 + 100 * h 2 + 1000 * h 3)) (nI_add _ _) ?_
  exact zz_reti C (rfl) hS () (rfl) hP hD d_Mo_code_37

set_option maxHeartbeats 4000000 in
set_option maxRecDepth 100000 in
theorem c_Mo_pour_fill (l : Launch) (E : zG) (y0 : Nat) (v0 v1 v3 v4 v5 v6 v7 v8 v9 v10 v11 v12 v13 v14 v15 v17 v18 v19 v20 v21 v22 v23 v24 v25 v26 v27 : Value) (z1 z4 i : Nat) (fS fH : Nat → Int32) (hi : i < 4) : zMet l y_Mo_pour b_Mo_pour 5 none 0 0 0 0 E [.ref y0, .int (-1), .int (nI i)] [(y0, .inr (7, [v0, v1, .ref z1, v3, v4, v5, v6, v7, v8, v9, v10, v11, v12, v13, v14, v15, .ref z4, v17, v18, v19, v20, v21, v22, v23, v24, v25, v26, v27])), (z1, zI E 4 fS), (z4, zI E 4 fH)] (zQv E (S := Unit) (fun _ => True) (fun _ => [(y0, .inr (7, [v0, v1, .ref z1, v3, v4, v5, v6, v7, v8, v9, v10, v11, v12, v13, v14, v15, .ref z4, v17, v18, v19, v20, v21, v22, v23, v24, v25, v26, v27])), (z1, zI E 4 fS), (z4, zI E 4 (upd fH i (fS i)))])) := by
  refine zz_met (by decide +kernel) (Nat.le_of_ble_eq_true rfl) ?_
  intro p e s m below meth c A ls C hin hA hK hst hP hD hl
  obtain ⟨hx, hb, hr, hml, hown, hts, hlk⟩ := id C
  have hS : va_S A s.heap s.heap [] := va_S.rf
  have hl : lv_has ls 5 [(0, .ref y0), (1, .int (-1)), (2, .int (nI i))] := hl
  refine lv_iload_n hx hb d_Mo_pour_0 rfl (lv_at hl 1 rfl) ?_
  refine lv_if_ge (tgt := 19) hx hb d_Mo_pour_1 (by decide) (fun c_31 => ?_) (fun c_31 => ?_)
  · exact absurd c_31 (by decide)
  · refine lv_aload_n hx hb d_Mo_pour_4 rfl (lv_at hl 0 rfl) ?_
    refine zz_get C hK hP fl_Mo_44 0 rfl rfl d_Mo_pour_5 ?_
    refine lv_iload_n hx hb d_Mo_pour_8 rfl (lv_at hl 2 rfl) ?_
    refine lv_aload_n hx hb d_Mo_pour_9 rfl (lv_at hl 0 rfl) ?_
    refine zz_get C hK hP fl_Mo_7 0 rfl rfl d_Mo_pour_10 ?_
    refine lv_iload_n hx hb d_Mo_pour_13 rfl (lv_at hl 2 rfl) ?_
    refine zz_ialdN C hK hP 1 rfl (j := i) (hi) (by omega) d_Mo_pour_14 ?_
    refine zz_iastN C hK hP hD hS 2 rfl (j := i) (hi) (by omega) d_Mo_pour_15 (fun H locs hP hD hS => ?_)
    have hP : va_P E.1 vwCl [(y0, .inr (7, [v0, v1, .ref z1, v3, v4, v5, v6, v7, v8, v9, v10, v11, v12, v13, v14, v15, .ref z4, v17, v18, v19, v20, v21, v22, v23, v24, v25, v26, v27])), (z1, zI E 4 fS), (z4, zI E 4 (upd fH i (fS i)))] H := hP
    have hD : va_D A [(y0, .inr (7, [v0, v1, .ref z1, v3, v4, v5, v6, v7, v8, v9, v10, v11, v12, v13, v14, v15, .ref z4, v17, v18, v19, v20, v21, v22, v23, v24, v25, v26, v27])), (z1, zI E 4 fS), (z4, zI E 4 (upd fH i (fS i)))] := hD
    refine lv_goto (tgt := 91) hx hb d_Mo_pour_16 (by decide) ?_
    exact zz_retv C hS () (trivial) hP hD d_Mo_pour_91

set_option maxHeartbeats 4000000 in
set_option maxRecDepth 100000 in
theorem c_Mo_pour_empt (l : Launch) (E : zG) (y0 : Nat) (v0 v1 v3 v4 v5 v6 v7 v8 v9 v10 v11 v12 v13 v14 v15 v17 v18 v19 v20 v21 v22 v23 v24 v25 v26 v27 : Value) (z1 z4 i : Nat) (fS fH : Nat → Int32) (hi : i < 4) : zMet l y_Mo_pour b_Mo_pour 5 none 0 0 0 0 E [.ref y0, .int (nI i), .int (-1)] [(y0, .inr (7, [v0, v1, .ref z1, v3, v4, v5, v6, v7, v8, v9, v10, v11, v12, v13, v14, v15, .ref z4, v17, v18, v19, v20, v21, v22, v23, v24, v25, v26, v27])), (z1, zI E 4 fS), (z4, zI E 4 fH)] (zQv E (S := Unit) (fun _ => True) (fun _ => [(y0, .inr (7, [v0, v1, .ref z1, v3, v4, v5, v6, v7, v8, v9, v10, v11, v12, v13, v14, v15, .ref z4, v17, v18, v19, v20, v21, v22, v23, v24, v25, v26, v27])), (z1, zI E 4 fS), (z4, zI E 4 (upd fH i 0))])) := by
  refine zz_met (by decide +kernel) (Nat.le_of_ble_eq_true rfl) ?_
  intro p e s m below meth c A ls C hin hA hK hst hP hD hl
  obtain ⟨hx, hb, hr, hml, hown, hts, hlk⟩ := id C
  have hS : va_S A s.heap s.heap [] := va_S.rf
  have hl : lv_has ls 5 [(0, .ref y0), (1, .int (nI i)), (2, .int (-1))] := hl
  refine lv_iload_n hx hb d_Mo_pour_0 rfl (lv_at hl 1 rfl) ?_
  refine lv_if_ge (tgt := 19) hx hb d_Mo_pour_1 (by decide) (fun c_32 => ?_) (fun c_32 => ?_)
  · refine lv_iload_n hx hb d_Mo_pour_19 rfl (lv_at hl 2 rfl) ?_
    refine lv_if_ge (tgt := 33) hx hb d_Mo_pour_20 (by decide) (fun c_33 => ?_) (fun c_33 => ?_)
    · exact absurd c_33 (by decide)
    · refine lv_aload_n hx hb d_Mo_pour_23 rfl (lv_at hl 0 rfl) ?_
      refine zz_get C hK hP fl_Mo_44 0 rfl rfl d_Mo_pour_24 ?_
      refine lv_iload_n hx hb d_Mo_pour_27 rfl (lv_at hl 1 rfl) ?_
      refine lv_iconst (v := 0) hx hb d_Mo_pour_28 (by decide) ?_
      refine zz_iastN C hK hP hD hS 2 rfl (j := i) (hi) (by omega) d_Mo_pour_29 (fun H locs hP hD hS => ?_)
      have hP : va_P E.1 vwCl [(y0, .inr (7, [v0, v1, .ref z1, v3, v4, v5, v6, v7, v8, v9, v10, v11, v12, v13, v14, v15, .ref z4, v17, v18, v19, v20, v21, v22, v23, v24, v25, v26, v27])), (z1, zI E 4 fS), (z4, zI E 4 (upd fH i 0))] H := hP
      have hD : va_D A [(y0, .inr (7, [v0, v1, .ref z1, v3, v4, v5, v6, v7, v8, v9, v10, v11, v12, v13, v14, v15, .ref z4, v17, v18, v19, v20, v21, v22, v23, v24, v25, v26, v27])), (z1, zI E 4 fS), (z4, zI E 4 (upd fH i 0))] := hD
      refine lv_goto (tgt := 91) hx hb d_Mo_pour_30 (by decide) ?_
      exact zz_retv C hS () (trivial) hP hD d_Mo_pour_91
  · exact absurd (zz_ge0 (by omega)) c_32

set_option maxHeartbeats 4000000 in
set_option maxRecDepth 100000 in
theorem c_Mo_pour_both (l : Launch) (E : zG) (y0 : Nat) (v0 v1 v3 v4 v5 v6 v7 v8 v9 v10 v11 v12 v13 v14 v15 v17 v18 v19 v20 v21 v22 v23 v24 v25 v26 v27 : Value) (z1 z4 i j x0 x1 sj : Nat) (fS fH : Nat → Int32) (hi : i < 4) (hj : j < 4) (hne : i ≠ j) (hs0 : fS j = nI sj) (h0 : fH i = nI x0) (h1 : fH j = nI x1) (hle : x1 ≤ sj) (hs9 : sj ≤ 9) (hx9 : x0 ≤ 9) : zMet l y_Mo_pour b_Mo_pour 5 none 0 0 0 0 E [.ref y0, .int (nI i), .int (nI j)] [(y0, .inr (7, [v0, v1, .ref z1, v3, v4, v5, v6, v7, v8, v9, v10, v11, v12, v13, v14, v15, .ref z4, v17, v18, v19, v20, v21, v22, v23, v24, v25, v26, v27])), (z1, zI E 4 fS), (z4, zI E 4 fH)] (zQv E (S := Unit) (fun _ => True) (fun _ => [(y0, .inr (7, [v0, v1, .ref z1, v3, v4, v5, v6, v7, v8, v9, v10, v11, v12, v13, v14, v15, .ref z4, v17, v18, v19, v20, v21, v22, v23, v24, v25, v26, v27])), (z1, zI E 4 fS), (z4, zI E 4 (upd (upd fH i (nI (x0 - jg_q x0 (sj - x1)))) j (nI (x1 + jg_q x0 (sj - x1)))))])) := by
  refine zz_met (by decide +kernel) (Nat.le_of_ble_eq_true rfl) ?_
  intro p e s m below meth c A ls C hin hA hK hst hP hD hl
  obtain ⟨hx, hb, hr, hml, hown, hts, hlk⟩ := id C
  have hS : va_S A s.heap s.heap [] := va_S.rf
  have hl : lv_has ls 5 [(0, .ref y0), (1, .int (nI i)), (2, .int (nI j))] := hl
  refine lv_iload_n hx hb d_Mo_pour_0 rfl (lv_at hl 1 rfl) ?_
  refine lv_if_ge (tgt := 19) hx hb d_Mo_pour_1 (by decide) (fun c_34 => ?_) (fun c_34 => ?_)
  · refine lv_iload_n hx hb d_Mo_pour_19 rfl (lv_at hl 2 rfl) ?_
    refine lv_if_ge (tgt := 33) hx hb d_Mo_pour_20 (by decide) (fun c_35 => ?_) (fun c_35 => ?_)
    · refine lv_aload_n hx hb d_Mo_pour_33 rfl (lv_at hl 0 rfl) ?_
      refine zz_get C hK hP fl_Mo_7 0 rfl rfl d_Mo_pour_34 ?_
      refine lv_iload_n hx hb d_Mo_pour_37 rfl (lv_at hl 2 rfl) ?_
      refine zz_ialdN C hK hP 1 rfl (j := j) (hj) (by omega) d_Mo_pour_38 ?_
      refine lv_aload_n hx hb d_Mo_pour_39 rfl (lv_at hl 0 rfl) ?_
      refine zz_get C hK hP fl_Mo_44 0 rfl rfl d_Mo_pour_40 ?_
      refine lv_iload_n hx hb d_Mo_pour_43 rfl (lv_at hl 2 rfl) ?_
      refine zz_ialdN C hK hP 2 rfl (j := j) (hj) (by omega) d_Mo_pour_44 ?_
      refine lv_isub hx hb d_Mo_pour_45 ?_
      refine zz_eqi (y := nI (sj - x1)) (by rw [hs0, h1]; exact pk_sub hle) ?_
      refine lv_istore_n (lv' := [(3, .int (nI (sj - x1))), (0, .ref y0), (1, .int (nI i)), (2, .int (nI j))]) hx hb d_Mo_pour_46 rfl hl (by decide) rfl (fun ls hl => ?_)
      refine lv_aload_n hx hb d_Mo_pour_47 rfl (lv_at hl 1 rfl) ?_
      refine zz_get C hK hP fl_Mo_44 0 rfl rfl d_Mo_pour_48 ?_
      refine lv_iload_n hx hb d_Mo_pour_51 rfl (lv_at hl 2 rfl) ?_
      refine zz_ialdN C hK hP 2 rfl (j := i) (hi) (by omega) d_Mo_pour_52 ?_
      refine lv_iload_n hx hb d_Mo_pour_53 rfl (lv_at hl 0 rfl) ?_
      refine lv_icmp_ge (tgt := 66) hx hb d_Mo_pour_54 (by decide) (fun c_36 => ?_) (fun c_36 => ?_)
      · have hq : jg_q x0 (sj - x1) = sj - x1 := jg_q_r (by
          rw [h0] at c_36
          exact (nI_leI (by omega) (by omega)).mp c_36)
        refine lv_iload_n hx hb d_Mo_pour_66 rfl (lv_at hl 0 rfl) ?_
        refine zz_eqi (y := nI (jg_q x0 (sj - x1))) (by rw [hq]) ?_
        refine lv_istore (lv' := [(4, .int (nI (jg_q x0 (sj - x1)))), (3, .int (nI (sj - x1))), (0, .ref y0), (1, .int (nI i)), (2, .int (nI j))]) hx hb d_Mo_pour_67 hl (by decide) rfl (fun ls hl => ?_)
        refine lv_aload_n hx hb d_Mo_pour_69 rfl (lv_at hl 2 rfl) ?_
        refine zz_get C hK hP fl_Mo_44 0 rfl rfl d_Mo_pour_70 ?_
        refine lv_iload_n hx hb d_Mo_pour_73 rfl (lv_at hl 3 rfl) ?_
        refine lv_dup2_11 hx hb d_Mo_pour_74 rfl rfl ?_
        refine zz_ialdN C hK hP 2 rfl (j := i) (hi) (by omega) d_Mo_pour_75 ?_
        refine lv_iload hx hb d_Mo_pour_76 (lv_at hl 0 rfl) ?_
        refine lv_isub hx hb d_Mo_pour_78 ?_
        refine zz_eqi (y := nI (x0 - jg_q x0 (sj - x1))) (by rw [h0]; exact pk_sub (jg_q_le _ _)) ?_
        refine zz_iastN C hK hP hD hS 2 rfl (j := i) (hi) (by omega) d_Mo_pour_79 (fun H locs hP hD hS => ?_)
        have hP : va_P E.1 vwCl [(y0, .inr (7, [v0, v1, .ref z1, v3, v4, v5, v6, v7, v8, v9, v10, v11, v12, v13, v14, v15, .ref z4, v17, v18, v19, v20, v21, v22, v23, v24, v25, v26, v27])), (z1, zI E 4 fS), (z4, zI E 4 (upd fH i (nI (x0 - jg_q x0 (sj - x1)))))] H := hP
        have hD : va_D A [(y0, .inr (7, [v0, v1, .ref z1, v3, v4, v5, v6, v7, v8, v9, v10, v11, v12, v13, v14, v15, .ref z4, v17, v18, v19, v20, v21, v22, v23, v24, v25, v26, v27])), (z1, zI E 4 fS), (z4, zI E 4 (upd fH i (nI (x0 - jg_q x0 (sj - x1)))))] := hD
        refine lv_aload_n hx hb d_Mo_pour_80 rfl (lv_at hl 2 rfl) ?_
        refine zz_get C hK hP fl_Mo_44 0 rfl rfl d_Mo_pour_81 ?_
        refine lv_iload_n hx hb d_Mo_pour_84 rfl (lv_at hl 4 rfl) ?_
        refine lv_dup2_11 hx hb d_Mo_pour_85 rfl rfl ?_
        refine zz_ialdN C hK hP 2 rfl (j := j) (hj) (by omega) d_Mo_pour_86 ?_
        refine lv_iload hx hb d_Mo_pour_87 (lv_at hl 0 rfl) ?_
        refine lv_iadd hx hb d_Mo_pour_89 ?_
        refine zz_eqi (y := nI (x1 + jg_q x0 (sj - x1))) (by rw [pk_un (Ne.symm hne), h1]; exact nI_add _ _) ?_
        refine zz_iastN C hK hP hD hS 2 rfl (j := j) (hj) (by omega) d_Mo_pour_90 (fun H locs hP hD hS => ?_)
        have hP : va_P E.1 vwCl [(y0, .inr (7, [v0, v1, .ref z1, v3, v4, v5, v6, v7, v8, v9, v10, v11, v12, v13, v14, v15, .ref z4, v17, v18, v19, v20, v21, v22, v23, v24, v25, v26, v27])), (z1, zI E 4 fS), (z4, zI E 4 (upd (upd fH i (nI (x0 - jg_q x0 (sj - x1)))) j (nI (x1 + jg_q x0 (sj - x1)))))] H := hP
        have hD : va_D A [(y0, .inr (7, [v0, v1, .ref z1, v3, v4, v5, v6, v7, v8, v9, v10, v11, v12, v13, v14, v15, .ref z4, v17, v18, v19, v20, v21, v22, v23, v24, v25, v26, v27])), (z1, zI E 4 fS), (z4, zI E 4 (upd (upd fH i (nI (x0 - jg_q x0 (sj - x1)))) j (nI (x1 + jg_q x0 (sj - x1)))))] := hD
        exact zz_retv C hS () (trivial) hP hD d_Mo_pour_91
      · have hq : jg_q x0 (sj - x1) = x0 := jg_q_l (by
          rw [h0] at c_36
          exact Nat.lt_of_not_le (fun z => c_36 ((nI_leI (by omega) (by omega)).mpr z)))
        refine lv_aload_n hx hb d_Mo_pour_57 rfl (lv_at hl 1 rfl) ?_
        refine zz_get C hK hP fl_Mo_44 0 rfl rfl d_Mo_pour_58 ?_
        refine lv_iload_n hx hb d_Mo_pour_61 rfl (lv_at hl 2 rfl) ?_
        refine zz_ialdN C hK hP 2 rfl (j := i) (hi) (by omega) d_Mo_pour_62 ?_
        refine lv_goto (tgt := 67) hx hb d_Mo_pour_63 (by decide) ?_
        refine zz_eqi (y := nI (jg_q x0 (sj - x1))) (by rw [hq]; exact h0) ?_
        refine lv_istore (lv' := [(4, .int (nI (jg_q x0 (sj - x1)))), (3, .int (nI (sj - x1))), (0, .ref y0), (1, .int (nI i)), (2, .int (nI j))]) hx hb d_Mo_pour_67 hl (by decide) rfl (fun ls hl => ?_)
        refine lv_aload_n hx hb d_Mo_pour_69 rfl (lv_at hl 2 rfl) ?_
        refine zz_get C hK hP fl_Mo_44 0 rfl rfl d_Mo_pour_70 ?_
        refine lv_iload_n hx hb d_Mo_pour_73 rfl (lv_at hl 3 rfl) ?_
        refine lv_dup2_11 hx hb d_Mo_pour_74 rfl rfl ?_
        refine zz_ialdN C hK hP 2 rfl (j := i) (hi) (by omega) d_Mo_pour_75 ?_
        refine lv_iload hx hb d_Mo_pour_76 (lv_at hl 0 rfl) ?_
        refine lv_isub hx hb d_Mo_pour_78 ?_
        refine zz_eqi (y := nI (x0 - jg_q x0 (sj - x1))) (by rw [h0]; exact pk_sub (jg_q_le _ _)) ?_
        refine zz_iastN C hK hP hD hS 2 rfl (j := i) (hi) (by omega) d_Mo_pour_79 (fun H locs hP hD hS => ?_)
        have hP : va_P E.1 vwCl [(y0, .inr (7, [v0, v1, .ref z1, v3, v4, v5, v6, v7, v8, v9, v10, v11, v12, v13, v14, v15, .ref z4, v17, v18, v19, v20, v21, v22, v23, v24, v25, v26, v27])), (z1, zI E 4 fS), (z4, zI E 4 (upd fH i (nI (x0 - jg_q x0 (sj - x1)))))] H := hP
        have hD : va_D A [(y0, .inr (7, [v0, v1, .ref z1, v3, v4, v5, v6, v7, v8, v9, v10, v11, v12, v13, v14, v15, .ref z4, v17, v18, v19, v20, v21, v22, v23, v24, v25, v26, v27])), (z1, zI E 4 fS), (z4, zI E 4 (upd fH i (nI (x0 - jg_q x0 (sj - x1)))))] := hD
        refine lv_aload_n hx hb d_Mo_pour_80 rfl (lv_at hl 2 rfl) ?_
        refine zz_get C hK hP fl_Mo_44 0 rfl rfl d_Mo_pour_81 ?_
        refine lv_iload_n hx hb d_Mo_pour_84 rfl (lv_at hl 4 rfl) ?_
        refine lv_dup2_11 hx hb d_Mo_pour_85 rfl rfl ?_
        refine zz_ialdN C hK hP 2 rfl (j := j) (hj) (by omega) d_Mo_pour_86 ?_
        refine lv_iload hx hb d_Mo_pour_87 (lv_at hl 0 rfl) ?_
        refine lv_iadd hx hb d_Mo_pour_89 ?_
        refine zz_eqi (y := nI (x1 + jg_q x0 (sj - x1))) (by rw [pk_un (Ne.symm hne), h1]; exact nI_add _ _) ?_
        refine zz_iastN C hK hP hD hS 2 rfl (j := j) (hj) (by omega) d_Mo_pour_90 (fun H locs hP hD hS => ?_)
        have hP : va_P E.1 vwCl [(y0, .inr (7, [v0, v1, .ref z1, v3, v4, v5, v6, v7, v8, v9, v10, v11, v12, v13, v14, v15, .ref z4, v17, v18, v19, v20, v21, v22, v23, v24, v25, v26, v27])), (z1, zI E 4 fS), (z4, zI E 4 (upd (upd fH i (nI (x0 - jg_q x0 (sj - x1)))) j (nI (x1 + jg_q x0 (sj - x1)))))] H := hP
        have hD : va_D A [(y0, .inr (7, [v0, v1, .ref z1, v3, v4, v5, v6, v7, v8, v9, v10, v11, v12, v13, v14, v15, .ref z4, v17, v18, v19, v20, v21, v22, v23, v24, v25, v26, v27])), (z1, zI E 4 fS), (z4, zI E 4 (upd (upd fH i (nI (x0 - jg_q x0 (sj - x1)))) j (nI (x1 + jg_q x0 (sj - x1)))))] := hD
        exact zz_retv C hS () (trivial) hP hD d_Mo_pour_91
    · exact absurd (zz_ge0 (by omega)) c_35
  · exact absurd (zz_ge0 (by omega)) c_34

set_option maxHeartbeats 4000000 in
set_option maxRecDepth 100000 in
theorem lp_Mo_isGoal {p : Program} {l : Launch} {e : Env} {s : State} {m : MethodId} {below : List Frame} {meth : Method} {c : Code} {A : Nat → Prop}  {E : zG} {y0 : Nat} {v0 v2 v3 v5 v6 v7 v8 v9 v10 v11 v12 v13 v14 v15 v17 v18 v19 v20 v21 v22 v23 v24 v25 v26 v27 : Value} {z3 z4 jc x : Nat} {fW : Nat → Int32} (hc : jc ≤ 4) (hx0 : x < 10000) (hW : ∀ i, i < jc → fW i = -1 ∨ ¬ fW i < 0) {g : Nat → Int32} (hg : ∀ j, j < 4 → g j = nI (jg_d x j)) (C : cx p s m #[.ref y0, .int (nI x)] meth c b_Mo_isGoal 3 y_Mo_isGoal.cls (some .boolean)) (hA : ∀ q, s.heap.size ≤ q → A q) (hK : kt E s) (hst : stt A s s.heap) :
    ∀ (f i : Nat) (_ : i + f = jc) (_ : ∀ j, j < i → fW j = -1 ∨ fW j = nI (jg_d x j)) (H : Heap) (locs : List Loc) (ls : Array Slot), va_P E.1 vwCl [(y0, .inr (7, [v0, .int (nI jc), v2, v3, .ref z3, v5, v6, v7, v8, v9, v10, v11, v12, v13, v14, v15, .ref z4, v17, v18, v19, v20, v21, v22, v23, v24, v25, v26, v27])), (z3, zI E 4 fW), (z4, zI E 4 g)] H → va_D A [(y0, .inr (7, [v0, .int (nI jc), v2, v3, .ref z3, v5, v6, v7, v8, v9, v10, v11, v12, v13, v14, v15, .ref z4, v17, v18, v19, v20, v21, v22, v23, v24, v25, v26, v27])), (z3, zI E 4 fW), (z4, zI E 4 g)] → va_S A s.heap H locs → lv_has ls 3 [(0, .ref y0), (1, .int (nI x)), (2, .int (nI i))] → W p l e (zR 1 23 0 0) s m #[.ref y0, .int (nI x)] below meth c H locs 0 0 (MQ below ((zQi E (S := Nat → Int32) (fun r u => (∀ j, j < 4 → u j = nI (jg_d x j)) ∧ ((jg_done jc fW x) → r = 1) ∧ (¬ (jg_done jc fW x) → r = 0)) (fun u => [(y0, .inr (7, [v0, .int (nI jc), v2, v3, .ref z3, v5, v6, v7, v8, v9, v10, v11, v12, v13, v14, v15, .ref z4, v17, v18, v19, v20, v21, v22, v23, v24, v25, v26, v27])), (z3, zI E 4 fW), (z4, zI E 4 u)])) A) #[.ref y0, .int (nI x)] s 0 0 A) (F0 m 7 ls []) := by
  obtain ⟨hx, hb, hr, hml, hown, hts, hlk⟩ := id C
  intro f
  induction f with
  | zero =>
    intro i hi hd H locs ls hP hD hS hl
    have hi : i = jc := by omega
    subst hi
    refine lv_iload_n hx hb d_Mo_isGoal_7 rfl (lv_at hl 2 rfl) ?_
    refine lv_aload_n hx hb d_Mo_isGoal_8 rfl (lv_at hl 0 rfl) ?_
    refine zz_get C hK hP fl_Mo_75 0 rfl rfl d_Mo_isGoal_9 ?_
    refine lv_icmp_ge (tgt := 47) hx hb d_Mo_isGoal_12 (by decide) (fun c_37 => ?_) (fun c_37 => ?_)
    · refine lv_iconst (v := 1) hx hb d_Mo_isGoal_47 (by decide) ?_
      exact zz_reti C (rfl) hS g (⟨hg, fun _ => rfl, fun h => absurd hd h⟩) hP hD d_Mo_isGoal_48
    · exact absurd (nI_le (Nat.le_refl _) (by omega)) c_37
  | succ f ih =>
    intro i hi hd H locs ls hP hD hS hl
    have hic : i < jc := by omega
    refine lv_iload_n hx hb d_Mo_isGoal_7 rfl (lv_at hl 2 rfl) ?_
    refine lv_aload_n hx hb d_Mo_isGoal_8 rfl (lv_at hl 0 rfl) ?_
    refine zz_get C hK hP fl_Mo_75 0 rfl rfl d_Mo_isGoal_9 ?_
    refine lv_icmp_ge (tgt := 47) hx hb d_Mo_isGoal_12 (by decide) (fun c_38 => ?_) (fun c_38 => ?_)
    · exact absurd c_38 (nI_ge hic (by omega))
    · refine lv_aload_n hx hb d_Mo_isGoal_15 rfl (lv_at hl 0 rfl) ?_
      refine zz_get C hK hP fl_Mo_16 0 rfl rfl d_Mo_isGoal_16 ?_
      refine lv_iload_n hx hb d_Mo_isGoal_19 rfl (lv_at hl 2 rfl) ?_
      refine zz_ialdN C hK hP 1 rfl (j := i) (by omega) (by omega) d_Mo_isGoal_20 ?_
      refine lv_if_lt (tgt := 41) hx hb d_Mo_isGoal_21 (by decide) (fun c_39 => ?_) (fun c_39 => ?_)
      · refine lv_iinc (v := nI (i + 1)) (lv' := [(2, .int (nI (i + 1))), (0, .ref y0), (1, .int (nI x))]) hx hb d_Mo_isGoal_41 hl (k := 2) rfl (nI_1 _) (by decide) rfl (fun ls hl => ?_)
        refine lv_goto (tgt := 7) hx hb d_Mo_isGoal_44 (by decide) ?_
        exact ih (i + 1) (by omega) (lt_s hd (Or.inl ((hW i hic).resolve_right (fun z => z c_39)))) _ _ ls hP hD hS (lv_sub hl [1, 2, 0] rfl)
      · refine lv_aload_n hx hb d_Mo_isGoal_24 rfl (lv_at hl 0 rfl) ?_
        refine zz_get C hK hP fl_Mo_44 0 rfl rfl d_Mo_isGoal_25 ?_
        refine lv_iload_n hx hb d_Mo_isGoal_28 rfl (lv_at hl 2 rfl) ?_
        refine zz_ialdN C hK hP 2 rfl (j := i) (by omega) (by omega) d_Mo_isGoal_29 ?_
        refine lv_aload_n hx hb d_Mo_isGoal_30 rfl (lv_at hl 0 rfl) ?_
        refine zz_get C hK hP fl_Mo_16 0 rfl rfl d_Mo_isGoal_31 ?_
        refine lv_iload_n hx hb d_Mo_isGoal_34 rfl (lv_at hl 2 rfl) ?_
        refine zz_ialdN C hK hP 1 rfl (j := i) (by omega) (by omega) d_Mo_isGoal_35 ?_
        refine lv_icmp_eq (tgt := 41) hx hb d_Mo_isGoal_36 (by decide) (fun c_40 => ?_) (fun c_40 => ?_)
        · refine lv_iinc (v := nI (i + 1)) (lv' := [(2, .int (nI (i + 1))), (0, .ref y0), (1, .int (nI x))]) hx hb d_Mo_isGoal_41 hl (k := 2) rfl (nI_1 _) (by decide) rfl (fun ls hl => ?_)
          refine lv_goto (tgt := 7) hx hb d_Mo_isGoal_44 (by decide) ?_
          exact ih (i + 1) (by omega) (lt_s hd (Or.inr (c_40.symm.trans (hg i (by omega))))) _ _ ls hP hD hS (lv_sub hl [1, 2, 0] rfl)
        · refine lv_iconst (v := 0) hx hb d_Mo_isGoal_39 (by decide) ?_
          exact zz_reti C (rfl) hS g (⟨hg, fun h => absurd (h i hic) (fun q => q.elim (fun z => c_39 (by rw [z]; decide)) (fun z => c_40 ((hg i (by omega)).trans z.symm))), fun _ => rfl⟩) hP hD d_Mo_isGoal_40

set_option maxHeartbeats 4000000 in
set_option maxRecDepth 100000 in
theorem c_Mo_isGoal (l : Launch) (E : zG) (y0 : Nat) (v0 v2 v3 v5 v6 v7 v8 v9 v10 v11 v12 v13 v14 v15 v17 v18 v19 v20 v21 v22 v23 v24 v25 v26 v27 : Value) (z3 z4 jc x : Nat) (fW fH : Nat → Int32) (hc : jc ≤ 4) (hx0 : x < 10000) (hW : ∀ i, i < jc → fW i = -1 ∨ ¬ fW i < 0) : zMet l y_Mo_isGoal b_Mo_isGoal 3 (some .boolean) 1 23 0 0 E [.ref y0, .int (nI x)] [(y0, .inr (7, [v0, .int (nI jc), v2, v3, .ref z3, v5, v6, v7, v8, v9, v10, v11, v12, v13, v14, v15, .ref z4, v17, v18, v19, v20, v21, v22, v23, v24, v25, v26, v27])), (z3, zI E 4 fW), (z4, zI E 4 fH)] (zQi E (S := Nat → Int32) (fun r u => (∀ j, j < 4 → u j = nI (jg_d x j)) ∧ ((jg_done jc fW x) → r = 1) ∧ (¬ (jg_done jc fW x) → r = 0)) (fun u => [(y0, .inr (7, [v0, .int (nI jc), v2, v3, .ref z3, v5, v6, v7, v8, v9, v10, v11, v12, v13, v14, v15, .ref z4, v17, v18, v19, v20, v21, v22, v23, v24, v25, v26, v27])), (z3, zI E 4 fW), (z4, zI E 4 u)])) := by
  refine zz_met (by decide +kernel) (Nat.le_of_ble_eq_true rfl) ?_
  intro p e s m below meth c A ls C hin hA hK hst hP hD hl
  obtain ⟨hx, hb, hr, hml, hown, hts, hlk⟩ := id C
  have hS : va_S A s.heap s.heap [] := va_S.rf
  have hl : lv_has ls 3 [(0, .ref y0), (1, .int (nI x))] := hl
  refine lv_aload_n hx hb d_Mo_isGoal_0 rfl (lv_at hl 0 rfl) ?_
  refine lv_iload_n hx hb d_Mo_isGoal_1 rfl (lv_at hl 1 rfl) ?_
  refine zz_gov (wr := [(z3, zI E 4 fW)]) [0, 2] [1] rfl rfl (by decide) (by decide) hA hP hD hS (zz_runV (wc := [(y0, .inr (7, [v0, .int (nI jc), v2, v3, .ref z3, v5, v6, v7, v8, v9, v10, v11, v12, v13, v14, v15, .ref z4, v17, v18, v19, v20, v21, v22, v23, v24, v25, v26, v27])), (z4, zI E 4 fH)]) (As := [.int (nI x)]) (rest := []) C (c_Mo_take l E y0 v0 (.int (nI jc)) v2 v3 (.ref z3) v5 v6 v7 v8 v9 v10 v11 v12 v13 v14 v15 v17 v18 v19 v20 v21 v22 v23 v24 v25 v26 v27 z4 x fH hx0) ym_Mo_take wd_ml_Mo_81 wd_im_Mo_take wd_se_Mo_take [0, 2] (by decide) rfl hA hK hst hP hD hS (ci := 7) (q0 := 0) rfl rfl rfl rfl hl.1 rfl (Nat.le_of_ble_eq_true rfl) ⟨Nat.le_of_ble_eq_true rfl, Nat.le_of_ble_eq_true rfl⟩ ⟨Nat.le_of_ble_eq_true rfl, Nat.le_of_ble_eq_true rfl⟩ d_Mo_isGoal_2) (fun u H locs hw hP hD hS => ?_)
  have hP : va_P E.1 vwCl [(z3, zI E 4 fW), (y0, .inr (7, [v0, .int (nI jc), v2, v3, .ref z3, v5, v6, v7, v8, v9, v10, v11, v12, v13, v14, v15, .ref z4, v17, v18, v19, v20, v21, v22, v23, v24, v25, v26, v27])), (z4, zI E 4 u)] H := hP
  have hD : va_D A [(z3, zI E 4 fW), (y0, .inr (7, [v0, .int (nI jc), v2, v3, .ref z3, v5, v6, v7, v8, v9, v10, v11, v12, v13, v14, v15, .ref z4, v17, v18, v19, v20, v21, v22, v23, v24, v25, v26, v27])), (z4, zI E 4 u)] := hD
  have hP := hP.sub (ws' := [(y0, .inr (7, [v0, .int (nI jc), v2, v3, .ref z3, v5, v6, v7, v8, v9, v10, v11, v12, v13, v14, v15, .ref z4, v17, v18, v19, v20, v21, v22, v23, v24, v25, v26, v27])), (z3, zI E 4 fW), (z4, zI E 4 u)]) [1, 0, 2] rfl
  have hD := hD.sub (ws' := [(y0, .inr (7, [v0, .int (nI jc), v2, v3, .ref z3, v5, v6, v7, v8, v9, v10, v11, v12, v13, v14, v15, .ref z4, v17, v18, v19, v20, v21, v22, v23, v24, v25, v26, v27])), (z3, zI E 4 fW), (z4, zI E 4 u)]) [1, 0, 2] (by decide) rfl
  refine lv_iconst (v := 0) hx hb d_Mo_isGoal_5 (by decide) ?_
  refine lv_istore_n (lv' := [(2, .int 0), (0, .ref y0), (1, .int (nI x))]) hx hb d_Mo_isGoal_6 rfl hl (by decide) rfl (fun ls hl => ?_)
  have hl := lv_sub (l' := [(0, .ref y0), (1, .int (nI x)), (2, .int (nI 0))]) hl [1, 2, 0] (rfl)
  exact lp_Mo_isGoal hc hx0 hW hw C hA hK hst jc 0 (by omega) lt_0 _ _ ls hP hD hS hl

set_option maxHeartbeats 4000000 in
set_option maxRecDepth 100000 in
theorem c_Mo_come (l : Launch) (E : zG) (y0 : Nat) (v0 v1 v2 v3 v4 v5 v6 v7 v8 v9 v16 v17 v18 v19 v20 v21 v22 v23 v24 v25 v26 v27 : Value) (w3 w4 w5 w6 w7 mn : Nat) (fE fQ fP fA fB : Nat → Int32) (d : Nat) (bx fx tx : Int32) (hd0 : d < 10000) (hm0 : fE d = 0 → mn < 10000) : zMet l y_Mo_come b_Mo_come 5 none 0 0 0 0 E [.ref y0, .int (nI d), .int bx, .int fx, .int tx] [(y0, .inr (7, [v0, v1, v2, v3, v4, v5, v6, v7, v8, v9, .ref w3, .ref w4, .ref w5, .ref w6, .ref w7, .int (nI mn), v16, v17, v18, v19, v20, v21, v22, v23, v24, v25, v26, v27])), (w3, zI E 10000 fQ), (w4, zI E 10000 fP), (w5, zI E 10000 fA), (w6, zI E 10000 fB), (w7, zZ E 10000 fE)] (zQv E (S := mU) (fun u => mo_come d mn bx fx tx (fE, fQ, fP, fA, fB, mn) u) (fun u => [(y0, .inr (7, [v0, v1, v2, v3, v4, v5, v6, v7, v8, v9, .ref w3, .ref w4, .ref w5, .ref w6, .ref w7, .int (nI u.2.2.2.2.2), v16, v17, v18, v19, v20, v21, v22, v23, v24, v25, v26, v27])), (w3, zI E 10000 u.2.1), (w4, zI E 10000 u.2.2.1), (w5, zI E 10000 u.2.2.2.1), (w6, zI E 10000 u.2.2.2.2.1), (w7, zZ E 10000 u.1)])) := by
  refine zz_met (by decide +kernel) (Nat.le_of_ble_eq_true rfl) ?_
  intro p e s m below meth c A ls C hin hA hK hst hP hD hl
  obtain ⟨hx, hb, hr, hml, hown, hts, hlk⟩ := id C
  have hS : va_S A s.heap s.heap [] := va_S.rf
  have hl : lv_has ls 5 [(0, .ref y0), (1, .int (nI d)), (2, .int bx), (3, .int fx), (4, .int tx)] := hl
  refine lv_aload_n hx hb d_Mo_come_0 rfl (lv_at hl 0 rfl) ?_
  refine zz_get C hK hP fl_Mo_40 0 rfl rfl d_Mo_come_1 ?_
  refine lv_iload_n hx hb d_Mo_come_4 rfl (lv_at hl 1 rfl) ?_
  refine zz_zaldN C hK hP 5 rfl (j := d) (hd0) (by decide) d_Mo_come_5 ?_
  refine lv_if_eq (tgt := 10) hx hb d_Mo_come_6 (by decide) (fun c_42 => ?_) (fun c_42 => ?_)
  · have hmn := hm0 c_42
    refine lv_aload_n hx hb d_Mo_come_10 rfl (lv_at hl 0 rfl) ?_
    refine zz_get C hK hP fl_Mo_40 0 rfl rfl d_Mo_come_11 ?_
    refine lv_iload_n hx hb d_Mo_come_14 rfl (lv_at hl 1 rfl) ?_
    refine lv_iconst (v := 1) hx hb d_Mo_come_15 (by decide) ?_
    refine zz_zastN C hK hP hD hS 5 rfl (j := d) (hd0) (by decide) rfl d_Mo_come_16 (fun H locs hP hD hS => ?_)
    have hP : va_P E.1 vwCl [(y0, .inr (7, [v0, v1, v2, v3, v4, v5, v6, v7, v8, v9, .ref w3, .ref w4, .ref w5, .ref w6, .ref w7, .int (nI mn), v16, v17, v18, v19, v20, v21, v22, v23, v24, v25, v26, v27])), (w3, zI E 10000 fQ), (w4, zI E 10000 fP), (w5, zI E 10000 fA), (w6, zI E 10000 fB), (w7, zZ E 10000 (upd fE d 1))] H := hP
    have hD : va_D A [(y0, .inr (7, [v0, v1, v2, v3, v4, v5, v6, v7, v8, v9, .ref w3, .ref w4, .ref w5, .ref w6, .ref w7, .int (nI mn), v16, v17, v18, v19, v20, v21, v22, v23, v24, v25, v26, v27])), (w3, zI E 10000 fQ), (w4, zI E 10000 fP), (w5, zI E 10000 fA), (w6, zI E 10000 fB), (w7, zZ E 10000 (upd fE d 1))] := hD
    refine lv_aload_n hx hb d_Mo_come_17 rfl (lv_at hl 0 rfl) ?_
    refine zz_get C hK hP fl_Mo_28 0 rfl rfl d_Mo_come_18 ?_
    refine lv_aload_n hx hb d_Mo_come_21 rfl (lv_at hl 0 rfl) ?_
    refine zz_get C hK hP fl_Mo_85 0 rfl rfl d_Mo_come_22 ?_
    refine lv_iload_n hx hb d_Mo_come_25 rfl (lv_at hl 1 rfl) ?_
    refine zz_iastN C hK hP hD hS 1 rfl (j := mn) (hmn) (by omega) d_Mo_come_26 (fun H locs hP hD hS => ?_)
    have hP : va_P E.1 vwCl [(y0, .inr (7, [v0, v1, v2, v3, v4, v5, v6, v7, v8, v9, .ref w3, .ref w4, .ref w5, .ref w6, .ref w7, .int (nI mn), v16, v17, v18, v19, v20, v21, v22, v23, v24, v25, v26, v27])), (w3, zI E 10000 (upd fQ mn (nI d))), (w4, zI E 10000 fP), (w5, zI E 10000 fA), (w6, zI E 10000 fB), (w7, zZ E 10000 (upd fE d 1))] H := hP
    have hD : va_D A [(y0, .inr (7, [v0, v1, v2, v3, v4, v5, v6, v7, v8, v9, .ref w3, .ref w4, .ref w5, .ref w6, .ref w7, .int (nI mn), v16, v17, v18, v19, v20, v21, v22, v23, v24, v25, v26, v27])), (w3, zI E 10000 (upd fQ mn (nI d))), (w4, zI E 10000 fP), (w5, zI E 10000 fA), (w6, zI E 10000 fB), (w7, zZ E 10000 (upd fE d 1))] := hD
    refine lv_aload_n hx hb d_Mo_come_27 rfl (lv_at hl 0 rfl) ?_
    refine zz_get C hK hP fl_Mo_31 0 rfl rfl d_Mo_come_28 ?_
    refine lv_aload_n hx hb d_Mo_come_31 rfl (lv_at hl 0 rfl) ?_
    refine zz_get C hK hP fl_Mo_85 0 rfl rfl d_Mo_come_32 ?_
    refine lv_iload_n hx hb d_Mo_come_35 rfl (lv_at hl 2 rfl) ?_
    refine zz_iastN C hK hP hD hS 2 rfl (j := mn) (hmn) (by omega) d_Mo_come_36 (fun H locs hP hD hS => ?_)
    have hP : va_P E.1 vwCl [(y0, .inr (7, [v0, v1, v2, v3, v4, v5, v6, v7, v8, v9, .ref w3, .ref w4, .ref w5, .ref w6, .ref w7, .int (nI mn), v16, v17, v18, v19, v20, v21, v22, v23, v24, v25, v26, v27])), (w3, zI E 10000 (upd fQ mn (nI d))), (w4, zI E 10000 (upd fP mn bx)), (w5, zI E 10000 fA), (w6, zI E 10000 fB), (w7, zZ E 10000 (upd fE d 1))] H := hP
    have hD : va_D A [(y0, .inr (7, [v0, v1, v2, v3, v4, v5, v6, v7, v8, v9, .ref w3, .ref w4, .ref w5, .ref w6, .ref w7, .int (nI mn), v16, v17, v18, v19, v20, v21, v22, v23, v24, v25, v26, v27])), (w3, zI E 10000 (upd fQ mn (nI d))), (w4, zI E 10000 (upd fP mn bx)), (w5, zI E 10000 fA), (w6, zI E 10000 fB), (w7, zZ E 10000 (upd fE d 1))] := hD
    refine lv_aload_n hx hb d_Mo_come_37 rfl (lv_at hl 0 rfl) ?_
    refine zz_get C hK hP fl_Mo_34 0 rfl rfl d_Mo_come_38 ?_
    refine lv_aload_n hx hb d_Mo_come_41 rfl (lv_at hl 0 rfl) ?_
    refine zz_get C hK hP fl_Mo_85 0 rfl rfl d_Mo_come_42 ?_
    refine lv_iload_n hx hb d_Mo_come_45 rfl (lv_at hl 3 rfl) ?_
    refine zz_iastN C hK hP hD hS 3 rfl (j := mn) (hmn) (by omega) d_Mo_come_46 (fun H locs hP hD hS => ?_)
    have hP : va_P E.1 vwCl [(y0, .inr (7, [v0, v1, v2, v3, v4, v5, v6, v7, v8, v9, .ref w3, .ref w4, .ref w5, .ref w6, .ref w7, .int (nI mn), v16, v17, v18, v19, v20, v21, v22, v23, v24, v25, v26, v27])), (w3, zI E 10000 (upd fQ mn (nI d))), (w4, zI E 10000 (upd fP mn bx)), (w5, zI E 10000 (upd fA mn fx)), (w6, zI E 10000 fB), (w7, zZ E 10000 (upd fE d 1))] H := hP
    have hD : va_D A [(y0, .inr (7, [v0, v1, v2, v3, v4, v5, v6, v7, v8, v9, .ref w3, .ref w4, .ref w5, .ref w6, .ref w7, .int (nI mn), v16, v17, v18, v19, v20, v21, v22, v23, v24, v25, v26, v27])), (w3, zI E 10000 (upd fQ mn (nI d))), (w4, zI E 10000 (upd fP mn bx)), (w5, zI E 10000 (upd fA mn fx)), (w6, zI E 10000 fB), (w7, zZ E 10000 (upd fE d 1))] := hD
    refine lv_aload_n hx hb d_Mo_come_47 rfl (lv_at hl 0 rfl) ?_
    refine zz_get C hK hP fl_Mo_37 0 rfl rfl d_Mo_come_48 ?_
    refine lv_aload_n hx hb d_Mo_come_51 rfl (lv_at hl 0 rfl) ?_
    refine zz_get C hK hP fl_Mo_85 0 rfl rfl d_Mo_come_52 ?_
    refine lv_iload hx hb d_Mo_come_55 (lv_at hl 4 rfl) ?_
    refine zz_iastN C hK hP hD hS 4 rfl (j := mn) (hmn) (by omega) d_Mo_come_57 (fun H locs hP hD hS => ?_)
    have hP : va_P E.1 vwCl [(y0, .inr (7, [v0, v1, v2, v3, v4, v5, v6, v7, v8, v9, .ref w3, .ref w4, .ref w5, .ref w6, .ref w7, .int (nI mn), v16, v17, v18, v19, v20, v21, v22, v23, v24, v25, v26, v27])), (w3, zI E 10000 (upd fQ mn (nI d))), (w4, zI E 10000 (upd fP mn bx)), (w5, zI E 10000 (upd fA mn fx)), (w6, zI E 10000 (upd fB mn tx)), (w7, zZ E 10000 (upd fE d 1))] H := hP
    have hD : va_D A [(y0, .inr (7, [v0, v1, v2, v3, v4, v5, v6, v7, v8, v9, .ref w3, .ref w4, .ref w5, .ref w6, .ref w7, .int (nI mn), v16, v17, v18, v19, v20, v21, v22, v23, v24, v25, v26, v27])), (w3, zI E 10000 (upd fQ mn (nI d))), (w4, zI E 10000 (upd fP mn bx)), (w5, zI E 10000 (upd fA mn fx)), (w6, zI E 10000 (upd fB mn tx)), (w7, zZ E 10000 (upd fE d 1))] := hD
    refine lv_aload_n hx hb d_Mo_come_58 rfl (lv_at hl 0 rfl) ?_
    refine lv_dup hx hb d_Mo_come_59 rfl ?_
    refine zz_get C hK hP fl_Mo_85 0 rfl rfl d_Mo_come_60 ?_
    refine lv_iconst (v := 1) hx hb d_Mo_come_63 (by decide) ?_
    refine lv_iadd hx hb d_Mo_come_64 ?_
    refine zz_eqi (y := nI (mn + 1)) (nI_1 _) ?_
    refine zz_put C hK hP hD hS fl_Mo_85 0 rfl rfl rfl (Nat.le_of_ble_eq_true rfl) d_Mo_come_65 (fun H locs hP hD hS => ?_)
    have hP : va_P E.1 vwCl [(y0, .inr (7, [v0, v1, v2, v3, v4, v5, v6, v7, v8, v9, .ref w3, .ref w4, .ref w5, .ref w6, .ref w7, .int (nI (mn + 1)), v16, v17, v18, v19, v20, v21, v22, v23, v24, v25, v26, v27])), (w3, zI E 10000 (upd fQ mn (nI d))), (w4, zI E 10000 (upd fP mn bx)), (w5, zI E 10000 (upd fA mn fx)), (w6, zI E 10000 (upd fB mn tx)), (w7, zZ E 10000 (upd fE d 1))] H := hP
    have hD : va_D A [(y0, .inr (7, [v0, v1, v2, v3, v4, v5, v6, v7, v8, v9, .ref w3, .ref w4, .ref w5, .ref w6, .ref w7, .int (nI (mn + 1)), v16, v17, v18, v19, v20, v21, v22, v23, v24, v25, v26, v27])), (w3, zI E 10000 (upd fQ mn (nI d))), (w4, zI E 10000 (upd fP mn bx)), (w5, zI E 10000 (upd fA mn fx)), (w6, zI E 10000 (upd fB mn tx)), (w7, zZ E 10000 (upd fE d 1))] := hD
    exact zz_retv C hS (upd fE d 1, upd fQ mn (nI d), upd fP mn bx, upd fA mn fx, upd fB mn tx, mn + 1) (⟨fun _ => rfl, fun z => absurd c_42 z⟩) hP hD d_Mo_come_68
  · exact zz_retv C hS (fE, fQ, fP, fA, fB, mn) (⟨fun z => absurd z c_42, fun _ => rfl⟩) hP hD d_Mo_come_9

set_option maxHeartbeats 4000000 in
set_option maxRecDepth 100000 in
theorem lp_Mo_begin {p : Program} {l : Launch} {e : Env} {s : State} {m : MethodId} {below : List Frame} {meth : Method} {c : Code} {A : Nat → Prop}  {E : zG} {y0 : Nat} {v0 v1 v2 v3 v4 v5 v6 v7 v8 v9 v16 v17 v18 v19 v20 v21 v22 v23 v24 v25 v26 v27 : Value} {w3 w4 w5 w6 w7 : Nat} {fQ fP fA fB : Nat → Int32} {mx : Int32} {d : Nat} (hd0 : d < 10000) (C : cx p s m #[.ref y0, .int (nI d)] meth c b_Mo_begin 3 y_Mo_begin.cls none) (hA : ∀ q, s.heap.size ≤ q → A q) (hK : kt E s) (hst : stt A s s.heap) :
    ∀ (f i : Nat) (g : Nat → Int32) (_ : i + f = 10000) (_ : ∀ j, j < i → g j = 0) (H : Heap) (locs : List Loc) (ls : Array Slot), va_P E.1 vwCl [(y0, .inr (7, [v0, v1, v2, v3, v4, v5, v6, v7, v8, v9, .ref w3, .ref w4, .ref w5, .ref w6, .ref w7, .int mx, v16, v17, v18, v19, v20, v21, v22, v23, v24, v25, v26, v27])), (w3, zI E 10000 fQ), (w4, zI E 10000 fP), (w5, zI E 10000 fA), (w6, zI E 10000 fB), (w7, zZ E 10000 g)] H → va_D A [(y0, .inr (7, [v0, v1, v2, v3, v4, v5, v6, v7, v8, v9, .ref w3, .ref w4, .ref w5, .ref w6, .ref w7, .int mx, v16, v17, v18, v19, v20, v21, v22, v23, v24, v25, v26, v27])), (w3, zI E 10000 fQ), (w4, zI E 10000 fP), (w5, zI E 10000 fA), (w6, zI E 10000 fB), (w7, zZ E 10000 g)] → va_S A s.heap H locs → lv_has ls 3 [(0, .ref y0), (1, .int (nI d)), (2, .int (nI i))] → W p l e (zR 1 24 0 0) s m #[.ref y0, .int (nI d)] below meth c H locs 0 0 (MQ below ((zQv E (S := mU) (fun u => ∃ g : Nat → Int32, (∀ j, j < 10000 → g j = 0) ∧ mo_come d 0 (-1) 0 0 (g, fQ, fP, fA, fB, 0) u) (fun u => [(y0, .inr (7, [v0, v1, v2, v3, v4, v5, v6, v7, v8, v9, .ref w3, .ref w4, .ref w5, .ref w6, .ref w7, .int (nI u.2.2.2.2.2), v16, v17, v18, v19, v20, v21, v22, v23, v24, v25, v26, v27])), (w3, zI E 10000 u.2.1), (w4, zI E 10000 u.2.2.1), (w5, zI E 10000 u.2.2.2.1), (w6, zI E 10000 u.2.2.2.2.1), (w7, zZ E 10000 u.1)])) A) #[.ref y0, .int (nI d)] s 0 0 A) (F0 m 2 ls []) := by
  obtain ⟨hx, hb, hr, hml, hown, hts, hlk⟩ := id C
  intro f
  induction f with
  | zero =>
    intro i g hi hg H locs ls hP hD hS hl
    have hi : i = 10000 := by omega
    subst hi
    refine lv_iload_n hx hb d_Mo_begin_2 rfl (lv_at hl 2 rfl) ?_
    refine lv_sipush (v := 10000) hx hb d_Mo_begin_3 (by decide) ?_
    refine lv_icmp_ge (tgt := 22) hx hb d_Mo_begin_6 (by decide) (fun c_43 => ?_) (fun c_43 => ?_)
    · refine lv_aload_n hx hb d_Mo_begin_22 rfl (lv_at hl 0 rfl) ?_
      refine lv_iconst (v := 0) hx hb d_Mo_begin_23 (by decide) ?_
      refine zz_eqi (y := nI 0) (rfl) ?_
      refine zz_put C hK hP hD hS fl_Mo_85 0 rfl rfl rfl (Nat.le_of_ble_eq_true rfl) d_Mo_begin_24 (fun H locs hP hD hS => ?_)
      have hP : va_P E.1 vwCl [(y0, .inr (7, [v0, v1, v2, v3, v4, v5, v6, v7, v8, v9, .ref w3, .ref w4, .ref w5, .ref w6, .ref w7, .int (nI 0), v16, v17, v18, v19, v20, v21, v22, v23, v24, v25, v26, v27])), (w3, zI E 10000 fQ), (w4, zI E 10000 fP), (w5, zI E 10000 fA), (w6, zI E 10000 fB), (w7, zZ E 10000 g)] H := hP
      have hD : va_D A [(y0, .inr (7, [v0, v1, v2, v3, v4, v5, v6, v7, v8, v9, .ref w3, .ref w4, .ref w5, .ref w6, .ref w7, .int (nI 0), v16, v17, v18, v19, v20, v21, v22, v23, v24, v25, v26, v27])), (w3, zI E 10000 fQ), (w4, zI E 10000 fP), (w5, zI E 10000 fA), (w6, zI E 10000 fB), (w7, zZ E 10000 g)] := hD
      refine lv_aload_n hx hb d_Mo_begin_27 rfl (lv_at hl 0 rfl) ?_
      refine lv_iload_n hx hb d_Mo_begin_28 rfl (lv_at hl 1 rfl) ?_
      refine lv_iconst (v := (-1)) hx hb d_Mo_begin_29 (by decide) ?_
      refine lv_iconst (v := 0) hx hb d_Mo_begin_30 (by decide) ?_
      refine lv_iconst (v := 0) hx hb d_Mo_begin_31 (by decide) ?_
      refine zz_gov (wr := []) [0, 1, 2, 3, 4, 5] [] rfl rfl (by decide) (by decide) hA hP hD hS (zz_runV (wc := [(y0, .inr (7, [v0, v1, v2, v3, v4, v5, v6, v7, v8, v9, .ref w3, .ref w4, .ref w5, .ref w6, .ref w7, .int (nI 0), v16, v17, v18, v19, v20, v21, v22, v23, v24, v25, v26, v27])), (w3, zI E 10000 fQ), (w4, zI E 10000 fP), (w5, zI E 10000 fA), (w6, zI E 10000 fB), (w7, zZ E 10000 g)]) (As := [.int (nI d), .int (-1), .int 0, .int 0]) (rest := []) C (c_Mo_come l E y0 v0 v1 v2 v3 v4 v5 v6 v7 v8 v9 v16 v17 v18 v19 v20 v21 v22 v23 v24 v25 v26 v27 w3 w4 w5 w6 w7 0 g fQ fP fA fB d (-1) 0 0 hd0 (fun _ => by decide)) ym_Mo_come wd_ml_Mo_88 wd_im_Mo_come wd_se_Mo_come [0, 1, 2, 3, 4, 5] (by decide) rfl hA hK hst hP hD hS (ci := 7) (q0 := 0) rfl rfl rfl rfl hl.1 rfl (Nat.le_of_ble_eq_true rfl) ⟨Nat.le_of_ble_eq_true rfl, Nat.le_of_ble_eq_true rfl⟩ ⟨Nat.le_of_ble_eq_true rfl, Nat.le_of_ble_eq_true rfl⟩ d_Mo_begin_32) (fun u2 H locs hw2 hP hD hS => ?_)
      have hP : va_P E.1 vwCl [(y0, .inr (7, [v0, v1, v2, v3, v4, v5, v6, v7, v8, v9, .ref w3, .ref w4, .ref w5, .ref w6, .ref w7, .int (nI u2.2.2.2.2.2), v16, v17, v18, v19, v20, v21, v22, v23, v24, v25, v26, v27])), (w3, zI E 10000 u2.2.1), (w4, zI E 10000 u2.2.2.1), (w5, zI E 10000 u2.2.2.2.1), (w6, zI E 10000 u2.2.2.2.2.1), (w7, zZ E 10000 u2.1)] H := hP
      have hD : va_D A [(y0, .inr (7, [v0, v1, v2, v3, v4, v5, v6, v7, v8, v9, .ref w3, .ref w4, .ref w5, .ref w6, .ref w7, .int (nI u2.2.2.2.2.2), v16, v17, v18, v19, v20, v21, v22, v23, v24, v25, v26, v27])), (w3, zI E 10000 u2.2.1), (w4, zI E 10000 u2.2.2.1), (w5, zI E 10000 u2.2.2.2.1), (w6, zI E 10000 u2.2.2.2.2.1), (w7, zZ E 10000 u2.1)] := hD
      exact zz_retv C hS u2 (⟨g, hg, hw2⟩) hP hD d_Mo_begin_35
    · exact absurd (nI_le (b := 10000) (Nat.le_refl _) (by decide)) c_43
  | succ f ih =>
    intro i g hi hg H locs ls hP hD hS hl
    refine lv_iload_n hx hb d_Mo_begin_2 rfl (lv_at hl 2 rfl) ?_
    refine lv_sipush (v := 10000) hx hb d_Mo_begin_3 (by decide) ?_
    refine lv_icmp_ge (tgt := 22) hx hb d_Mo_begin_6 (by decide) (fun c_45 => ?_) (fun c_45 => ?_)
    · exact absurd c_45 (nI_ge (b := 10000) (by omega) (by decide))
    · refine lv_aload_n hx hb d_Mo_begin_9 rfl (lv_at hl 0 rfl) ?_
      refine zz_get C hK hP fl_Mo_40 0 rfl rfl d_Mo_begin_10 ?_
      refine lv_iload_n hx hb d_Mo_begin_13 rfl (lv_at hl 2 rfl) ?_
      refine lv_iconst (v := 0) hx hb d_Mo_begin_14 (by decide) ?_
      refine zz_zastN C hK hP hD hS 5 rfl (j := i) (by omega) (by decide) rfl d_Mo_begin_15 (fun H locs hP hD hS => ?_)
      have hP : va_P E.1 vwCl [(y0, .inr (7, [v0, v1, v2, v3, v4, v5, v6, v7, v8, v9, .ref w3, .ref w4, .ref w5, .ref w6, .ref w7, .int mx, v16, v17, v18, v19, v20, v21, v22, v23, v24, v25, v26, v27])), (w3, zI E 10000 fQ), (w4, zI E 10000 fP), (w5, zI E 10000 fA), (w6, zI E 10000 fB), (w7, zZ E 10000 (upd g i 0))] H := hP
      have hD : va_D A [(y0, .inr (7, [v0, v1, v2, v3, v4, v5, v6, v7, v8, v9, .ref w3, .ref w4, .ref w5, .ref w6, .ref w7, .int mx, v16, v17, v18, v19, v20, v21, v22, v23, v24, v25, v26, v27])), (w3, zI E 10000 fQ), (w4, zI E 10000 fP), (w5, zI E 10000 fA), (w6, zI E 10000 fB), (w7, zZ E 10000 (upd g i 0))] := hD
      refine lv_iinc (v := nI (i + 1)) (lv' := [(2, .int (nI (i + 1))), (0, .ref y0), (1, .int (nI d))]) hx hb d_Mo_begin_16 hl (k := 2) rfl (nI_1 _) (by decide) rfl (fun ls hl => ?_)
      refine lv_goto (tgt := 2) hx hb d_Mo_begin_19 (by decide) ?_
      exact ih (i + 1) (upd g i 0) (by omega) (fun j hj => by
                  by_cases e : j = i
                  · subst e; exact pk_us
                  · rw [pk_un e]; exact hg j (by omega)) _ _ ls hP hD hS (lv_sub hl [1, 2, 0] rfl)

set_option maxHeartbeats 4000000 in
set_option maxRecDepth 100000 in
theorem c_Mo_begin (l : Launch) (E : zG) (y0 : Nat) (v0 v1 v2 v3 v4 v5 v6 v7 v8 v9 v16 v17 v18 v19 v20 v21 v22 v23 v24 v25 v26 v27 : Value) (w3 w4 w5 w6 w7 : Nat) (fE fQ fP fA fB : Nat → Int32) (mx : Int32) (d : Nat) (hd0 : d < 10000) : zMet l y_Mo_begin b_Mo_begin 3 none 1 24 0 0 E [.ref y0, .int (nI d)] [(y0, .inr (7, [v0, v1, v2, v3, v4, v5, v6, v7, v8, v9, .ref w3, .ref w4, .ref w5, .ref w6, .ref w7, .int mx, v16, v17, v18, v19, v20, v21, v22, v23, v24, v25, v26, v27])), (w3, zI E 10000 fQ), (w4, zI E 10000 fP), (w5, zI E 10000 fA), (w6, zI E 10000 fB), (w7, zZ E 10000 fE)] (zQv E (S := mU) (fun u => ∃ g : Nat → Int32, (∀ j, j < 10000 → g j = 0) ∧ mo_come d 0 (-1) 0 0 (g, fQ, fP, fA, fB, 0) u) (fun u => [(y0, .inr (7, [v0, v1, v2, v3, v4, v5, v6, v7, v8, v9, .ref w3, .ref w4, .ref w5, .ref w6, .ref w7, .int (nI u.2.2.2.2.2), v16, v17, v18, v19, v20, v21, v22, v23, v24, v25, v26, v27])), (w3, zI E 10000 u.2.1), (w4, zI E 10000 u.2.2.1), (w5, zI E 10000 u.2.2.2.1), (w6, zI E 10000 u.2.2.2.2.1), (w7, zZ E 10000 u.1)])) := by
  refine zz_met (by decide +kernel) (Nat.le_of_ble_eq_true rfl) ?_
  intro p e s m below meth c A ls C hin hA hK hst hP hD hl
  obtain ⟨hx, hb, hr, hml, hown, hts, hlk⟩ := id C
  have hS : va_S A s.heap s.heap [] := va_S.rf
  have hl : lv_has ls 3 [(0, .ref y0), (1, .int (nI d))] := hl
  refine lv_iconst (v := 0) hx hb d_Mo_begin_0 (by decide) ?_
  refine lv_istore_n (lv' := [(2, .int 0), (0, .ref y0), (1, .int (nI d))]) hx hb d_Mo_begin_1 rfl hl (by decide) rfl (fun ls hl => ?_)
  have hl := lv_sub (l' := [(0, .ref y0), (1, .int (nI d)), (2, .int (nI 0))]) hl [1, 2, 0] (rfl)
  exact lp_Mo_begin hd0 C hA hK hst 10000 0 fE (by omega) (fun j hj => absurd hj (Nat.not_lt_zero j)) _ _ ls hP hD hS hl

set_option maxHeartbeats 4000000 in
set_option maxRecDepth 100000 in
theorem lp_Mo_found2 {p : Program} {l : Launch} {e : Env} {s : State} {m : MethodId} {below : List Frame} {meth : Method} {c : Code} {A : Nat → Prop}  {E : zG} {y0 : Nat} {v0 v1 v2 v3 v4 v5 v6 v10 v14 v15 v16 v17 v18 v19 v20 v21 v22 v23 v24 v25 v26 v27 : Value} {w1 w2 w4 w5 w6 : Nat} {fE fQ fP fA fB : Nat → Int32} {N n : Nat} {φ : Nat → Nat} {st : bS} (hM : mr N φ st fE fQ fP) (hnd : st.2.Nodup) (hn : n < st.2.length) (hlen : st.2.length ≤ 10000) {f1 f2 : Nat → Int32} {sp : Int32} (C : cx p s m #[.ref y0, .int (nI n)] meth c b_Mo_found 4 y_Mo_found.cls (some .int)) (hA : ∀ q, s.heap.size ≤ q → A q) (hK : kt E s) (hst : stt A s s.heap) :
    ∀ (f a k : Nat) (g1 g2 : Nat → Int32) (_ : f ≤ 10000) (_ : k < f) (_ : k < st.2.length) (_ : a = bfs_cnt (bfs_bf st.1) f (st.2.getD k 0)) (H : Heap) (locs : List Loc) (ls : Array Slot), va_P E.1 vwCl [(y0, .inr (7, [v0, v1, v2, v3, v4, v5, v6, .int (nI (bfs_cnt (bfs_bf st.1) 10000 (st.2.getD n 0))), .ref w1, .ref w2, v10, .ref w4, .ref w5, .ref w6, v14, v15, v16, v17, v18, v19, v20, v21, v22, v23, v24, v25, v26, v27])), (w1, zI E 10000 g1), (w2, zI E 10000 g2), (w4, zI E 10000 fP), (w5, zI E 10000 fA), (w6, zI E 10000 fB)] H → va_D A [(y0, .inr (7, [v0, v1, v2, v3, v4, v5, v6, .int (nI (bfs_cnt (bfs_bf st.1) 10000 (st.2.getD n 0))), .ref w1, .ref w2, v10, .ref w4, .ref w5, .ref w6, v14, v15, v16, v17, v18, v19, v20, v21, v22, v23, v24, v25, v26, v27])), (w1, zI E 10000 g1), (w2, zI E 10000 g2), (w4, zI E 10000 fP), (w5, zI E 10000 fA), (w6, zI E 10000 fB)] → va_S A s.heap H locs → lv_has ls 4 [(0, .ref y0), (1, .int (nI n)), (2, .int (nI a)), (3, .int (nI k))] → W p l e (zR 0 0 0 0) s m #[.ref y0, .int (nI n)] below meth c H locs 0 0 (MQ below ((zQi E (S := (Nat → Int32) × (Nat → Int32)) (fun r _ => r = nI (bfs_cnt (bfs_bf st.1) 10000 (st.2.getD n 0))) (fun u => [(y0, .inr (7, [v0, v1, v2, v3, v4, v5, v6, .int (nI (bfs_cnt (bfs_bf st.1) 10000 (st.2.getD n 0))), .ref w1, .ref w2, v10, .ref w4, .ref w5, .ref w6, v14, v15, v16, v17, v18, v19, v20, v21, v22, v23, v24, v25, v26, v27])), (w1, zI E 10000 u.1), (w2, zI E 10000 u.2), (w4, zI E 10000 fP), (w5, zI E 10000 fA), (w6, zI E 10000 fB)])) A) #[.ref y0, .int (nI n)] s 0 0 A) (F0 m 43 ls []) := by
  obtain ⟨hx, hb, hr, hml, hown, hts, hlk⟩ := id C
  intro f
  induction f with
  | zero =>
    intro a k g1 g2 hf hk hk2 ha H locs ls hP hD hS hl
    exact absurd hk (Nat.not_lt_zero _)
  | succ f ih =>
    intro a k g1 g2 hf hk hk2 ha H locs ls hP hD hS hl
    rcases mr_cnt hM hnd hk2 with ⟨e1, -⟩ | ⟨k2, e1, e2, e3⟩
    · refine lv_aload_n hx hb d_Mo_found_43 rfl (lv_at hl 0 rfl) ?_
      refine zz_get C hK hP fl_Mo_31 0 rfl rfl d_Mo_found_44 ?_
      refine lv_iload_n hx hb d_Mo_found_47 rfl (lv_at hl 3 rfl) ?_
      refine zz_ialdN C hK hP 3 rfl (j := k) (by omega) (by omega) d_Mo_found_48 ?_
      refine lv_if_lt (tgt := 89) hx hb d_Mo_found_49 (by decide) (fun c_46 => ?_) (fun c_46 => ?_)
      · refine lv_aload_n hx hb d_Mo_found_89 rfl (lv_at hl 0 rfl) ?_
        refine zz_get C hK hP fl_Mo_78 0 rfl rfl d_Mo_found_90 ?_
        exact zz_reti C (rfl) hS (g1, g2) (rfl) hP hD d_Mo_found_93
      · exact absurd (by rw [e1]; decide) c_46
    · have ha2 := ha.trans (e3 f)
      have hle : bfs_cnt (bfs_bf st.1) f (st.2.getD k2 0) ≤ f := bfs_cnt_le _ _ _
      refine lv_aload_n hx hb d_Mo_found_43 rfl (lv_at hl 0 rfl) ?_
      refine zz_get C hK hP fl_Mo_31 0 rfl rfl d_Mo_found_44 ?_
      refine lv_iload_n hx hb d_Mo_found_47 rfl (lv_at hl 3 rfl) ?_
      refine zz_ialdN C hK hP 3 rfl (j := k) (by omega) (by omega) d_Mo_found_48 ?_
      refine lv_if_lt (tgt := 89) hx hb d_Mo_found_49 (by decide) (fun c_47 => ?_) (fun c_47 => ?_)
      · exact absurd c_47 (by rw [e2]; exact nI_pos (by omega))
      · refine lv_iinc (v := nI (bfs_cnt (bfs_bf st.1) f (st.2.getD k2 0))) (lv' := [(2, .int (nI (bfs_cnt (bfs_bf st.1) f (st.2.getD k2 0)))), (0, .ref y0), (1, .int (nI n)), (3, .int (nI k))]) hx hb d_Mo_found_52 hl (k := 2) rfl (by rw [ha2]; exact pk_m1 _) (by decide) rfl (fun ls hl => ?_)
        refine lv_aload_n hx hb d_Mo_found_55 rfl (lv_at hl 1 rfl) ?_
        refine zz_get C hK hP fl_Mo_22 0 rfl rfl d_Mo_found_56 ?_
        refine lv_iload_n hx hb d_Mo_found_59 rfl (lv_at hl 0 rfl) ?_
        refine lv_aload_n hx hb d_Mo_found_60 rfl (lv_at hl 1 rfl) ?_
        refine zz_get C hK hP fl_Mo_34 0 rfl rfl d_Mo_found_61 ?_
        refine lv_iload_n hx hb d_Mo_found_64 rfl (lv_at hl 3 rfl) ?_
        refine zz_ialdN C hK hP 4 rfl (j := k) (by omega) (by omega) d_Mo_found_65 ?_
        refine zz_iastN C hK hP hD hS 1 rfl (j := (bfs_cnt (bfs_bf st.1) f (st.2.getD k2 0))) (by omega) (by omega) d_Mo_found_66 (fun H locs hP hD hS => ?_)
        have hP : va_P E.1 vwCl [(y0, .inr (7, [v0, v1, v2, v3, v4, v5, v6, .int (nI (bfs_cnt (bfs_bf st.1) 10000 (st.2.getD n 0))), .ref w1, .ref w2, v10, .ref w4, .ref w5, .ref w6, v14, v15, v16, v17, v18, v19, v20, v21, v22, v23, v24, v25, v26, v27])), (w1, zI E 10000 (upd g1 (bfs_cnt (bfs_bf st.1) f (st.2.getD k2 0)) (fA k))), (w2, zI E 10000 g2), (w4, zI E 10000 fP), (w5, zI E 10000 fA), (w6, zI E 10000 fB)] H := hP
        have hD : va_D A [(y0, .inr (7, [v0, v1, v2, v3, v4, v5, v6, .int (nI (bfs_cnt (bfs_bf st.1) 10000 (st.2.getD n 0))), .ref w1, .ref w2, v10, .ref w4, .ref w5, .ref w6, v14, v15, v16, v17, v18, v19, v20, v21, v22, v23, v24, v25, v26, v27])), (w1, zI E 10000 (upd g1 (bfs_cnt (bfs_bf st.1) f (st.2.getD k2 0)) (fA k))), (w2, zI E 10000 g2), (w4, zI E 10000 fP), (w5, zI E 10000 fA), (w6, zI E 10000 fB)] := hD
        refine lv_aload_n hx hb d_Mo_found_67 rfl (lv_at hl 1 rfl) ?_
        refine zz_get C hK hP fl_Mo_25 0 rfl rfl d_Mo_found_68 ?_
        refine lv_iload_n hx hb d_Mo_found_71 rfl (lv_at hl 0 rfl) ?_
        refine lv_aload_n hx hb d_Mo_found_72 rfl (lv_at hl 1 rfl) ?_
        refine zz_get C hK hP fl_Mo_37 0 rfl rfl d_Mo_found_73 ?_
        refine lv_iload_n hx hb d_Mo_found_76 rfl (lv_at hl 3 rfl) ?_
        refine zz_ialdN C hK hP 5 rfl (j := k) (by omega) (by omega) d_Mo_found_77 ?_
        refine zz_iastN C hK hP hD hS 2 rfl (j := (bfs_cnt (bfs_bf st.1) f (st.2.getD k2 0))) (by omega) (by omega) d_Mo_found_78 (fun H locs hP hD hS => ?_)
        have hP : va_P E.1 vwCl [(y0, .inr (7, [v0, v1, v2, v3, v4, v5, v6, .int (nI (bfs_cnt (bfs_bf st.1) 10000 (st.2.getD n 0))), .ref w1, .ref w2, v10, .ref w4, .ref w5, .ref w6, v14, v15, v16, v17, v18, v19, v20, v21, v22, v23, v24, v25, v26, v27])), (w1, zI E 10000 (upd g1 (bfs_cnt (bfs_bf st.1) f (st.2.getD k2 0)) (fA k))), (w2, zI E 10000 (upd g2 (bfs_cnt (bfs_bf st.1) f (st.2.getD k2 0)) (fB k))), (w4, zI E 10000 fP), (w5, zI E 10000 fA), (w6, zI E 10000 fB)] H := hP
        have hD : va_D A [(y0, .inr (7, [v0, v1, v2, v3, v4, v5, v6, .int (nI (bfs_cnt (bfs_bf st.1) 10000 (st.2.getD n 0))), .ref w1, .ref w2, v10, .ref w4, .ref w5, .ref w6, v14, v15, v16, v17, v18, v19, v20, v21, v22, v23, v24, v25, v26, v27])), (w1, zI E 10000 (upd g1 (bfs_cnt (bfs_bf st.1) f (st.2.getD k2 0)) (fA k))), (w2, zI E 10000 (upd g2 (bfs_cnt (bfs_bf st.1) f (st.2.getD k2 0)) (fB k))), (w4, zI E 10000 fP), (w5, zI E 10000 fA), (w6, zI E 10000 fB)] := hD
        refine lv_aload_n hx hb d_Mo_found_79 rfl (lv_at hl 1 rfl) ?_
        refine zz_get C hK hP fl_Mo_31 0 rfl rfl d_Mo_found_80 ?_
        refine lv_iload_n hx hb d_Mo_found_83 rfl (lv_at hl 3 rfl) ?_
        refine zz_ialdN C hK hP 3 rfl (j := k) (by omega) (by omega) d_Mo_found_84 ?_
        refine zz_eqi (y := nI k2) (e2) ?_
        refine lv_istore_n (lv' := [(3, .int (nI k2)), (2, .int (nI (bfs_cnt (bfs_bf st.1) f (st.2.getD k2 0)))), (0, .ref y0), (1, .int (nI n))]) hx hb d_Mo_found_85 rfl hl (by decide) rfl (fun ls hl => ?_)
        refine lv_goto (tgt := 43) hx hb d_Mo_found_86 (by decide) ?_
        exact ih (bfs_cnt (bfs_bf st.1) f (st.2.getD k2 0)) k2 (upd g1 (bfs_cnt (bfs_bf st.1) f (st.2.getD k2 0)) (fA k)) (upd g2 (bfs_cnt (bfs_bf st.1) f (st.2.getD k2 0)) (fB k)) (by omega) (by omega) (by omega) rfl _ _ ls hP hD hS (lv_sub hl [2, 3, 1, 0] rfl)

set_option maxHeartbeats 4000000 in
set_option maxRecDepth 100000 in
theorem lp_Mo_found1 {p : Program} {l : Launch} {e : Env} {s : State} {m : MethodId} {below : List Frame} {meth : Method} {c : Code} {A : Nat → Prop}  {E : zG} {y0 : Nat} {v0 v1 v2 v3 v4 v5 v6 v10 v14 v15 v16 v17 v18 v19 v20 v21 v22 v23 v24 v25 v26 v27 : Value} {w1 w2 w4 w5 w6 : Nat} {fE fQ fP fA fB : Nat → Int32} {N n : Nat} {φ : Nat → Nat} {st : bS} (hM : mr N φ st fE fQ fP) (hnd : st.2.Nodup) (hn : n < st.2.length) (hlen : st.2.length ≤ 10000) {f1 f2 : Nat → Int32} {sp : Int32} (C : cx p s m #[.ref y0, .int (nI n)] meth c b_Mo_found 4 y_Mo_found.cls (some .int)) (hA : ∀ q, s.heap.size ≤ q → A q) (hK : kt E s) (hst : stt A s s.heap) :
    ∀ (f q k : Nat) (_ : f ≤ 10000) (_ : k < f) (_ : k < st.2.length) (_ : q + bfs_cnt (bfs_bf st.1) f (st.2.getD k 0) = bfs_cnt (bfs_bf st.1) 10000 (st.2.getD n 0)) (H : Heap) (locs : List Loc) (ls : Array Slot), va_P E.1 vwCl [(y0, .inr (7, [v0, v1, v2, v3, v4, v5, v6, .int (nI q), .ref w1, .ref w2, v10, .ref w4, .ref w5, .ref w6, v14, v15, v16, v17, v18, v19, v20, v21, v22, v23, v24, v25, v26, v27])), (w1, zI E 10000 f1), (w2, zI E 10000 f2), (w4, zI E 10000 fP), (w5, zI E 10000 fA), (w6, zI E 10000 fB)] H → va_D A [(y0, .inr (7, [v0, v1, v2, v3, v4, v5, v6, .int (nI q), .ref w1, .ref w2, v10, .ref w4, .ref w5, .ref w6, v14, v15, v16, v17, v18, v19, v20, v21, v22, v23, v24, v25, v26, v27])), (w1, zI E 10000 f1), (w2, zI E 10000 f2), (w4, zI E 10000 fP), (w5, zI E 10000 fA), (w6, zI E 10000 fB)] → va_S A s.heap H locs → lv_has ls 4 [(0, .ref y0), (1, .int (nI n)), (2, .int (nI k))] → W p l e (zR 0 0 0 0) s m #[.ref y0, .int (nI n)] below meth c H locs 0 0 (MQ below ((zQi E (S := (Nat → Int32) × (Nat → Int32)) (fun r _ => r = nI (bfs_cnt (bfs_bf st.1) 10000 (st.2.getD n 0))) (fun u => [(y0, .inr (7, [v0, v1, v2, v3, v4, v5, v6, .int (nI (bfs_cnt (bfs_bf st.1) 10000 (st.2.getD n 0))), .ref w1, .ref w2, v10, .ref w4, .ref w5, .ref w6, v14, v15, v16, v17, v18, v19, v20, v21, v22, v23, v24, v25, v26, v27])), (w1, zI E 10000 u.1), (w2, zI E 10000 u.2), (w4, zI E 10000 fP), (w5, zI E 10000 fA), (w6, zI E 10000 fB)])) A) #[.ref y0, .int (nI n)] s 0 0 A) (F0 m 7 ls []) := by
  obtain ⟨hx, hb, hr, hml, hown, hts, hlk⟩ := id C
  intro f
  induction f with
  | zero =>
    intro q k hf hk hk2 hq H locs ls hP hD hS hl
    exact absurd hk (Nat.not_lt_zero _)
  | succ f ih =>
    intro q k hf hk hk2 hq H locs ls hP hD hS hl
    rcases mr_cnt hM hnd hk2 with ⟨e1, e2⟩ | ⟨k2, e1, e2, e3⟩
    · have hq2 : q = bfs_cnt (bfs_bf st.1) 10000 (st.2.getD n 0) := by rw [← hq, e2 (f + 1)]; rfl
      refine lv_aload_n hx hb d_Mo_found_7 rfl (lv_at hl 0 rfl) ?_
      refine zz_get C hK hP fl_Mo_31 0 rfl rfl d_Mo_found_8 ?_
      refine lv_iload_n hx hb d_Mo_found_11 rfl (lv_at hl 2 rfl) ?_
      refine zz_ialdN C hK hP 3 rfl (j := k) (by omega) (by omega) d_Mo_found_12 ?_
      refine lv_if_lt (tgt := 36) hx hb d_Mo_found_13 (by decide) (fun c_48 => ?_) (fun c_48 => ?_)
      · have hP : va_P E.1 vwCl [(y0, .inr (7, [v0, v1, v2, v3, v4, v5, v6, .int (nI (bfs_cnt (bfs_bf st.1) 10000 (st.2.getD n 0))), .ref w1, .ref w2, v10, .ref w4, .ref w5, .ref w6, v14, v15, v16, v17, v18, v19, v20, v21, v22, v23, v24, v25, v26, v27])), (w1, zI E 10000 f1), (w2, zI E 10000 f2), (w4, zI E 10000 fP), (w5, zI E 10000 fA), (w6, zI E 10000 fB)] H := by
          have h9 := hP
          rw [hq2] at h9
          exact h9
        have hD : va_D A [(y0, .inr (7, [v0, v1, v2, v3, v4, v5, v6, .int (nI (bfs_cnt (bfs_bf st.1) 10000 (st.2.getD n 0))), .ref w1, .ref w2, v10, .ref w4, .ref w5, .ref w6, v14, v15, v16, v17, v18, v19, v20, v21, v22, v23, v24, v25, v26, v27])), (w1, zI E 10000 f1), (w2, zI E 10000 f2), (w4, zI E 10000 fP), (w5, zI E 10000 fA), (w6, zI E 10000 fB)] := by
          have h9 := hD
          rw [hq2] at h9
          exact h9
        refine lv_aload_n hx hb d_Mo_found_36 rfl (lv_at hl 0 rfl) ?_
        refine zz_get C hK hP fl_Mo_78 0 rfl rfl d_Mo_found_37 ?_
        refine lv_istore_n (lv' := [(2, .int (nI (bfs_cnt (bfs_bf st.1) 10000 (st.2.getD n 0)))), (0, .ref y0), (1, .int (nI n))]) hx hb d_Mo_found_40 rfl hl (by decide) rfl (fun ls hl => ?_)
        refine lv_iload_n hx hb d_Mo_found_41 rfl (lv_at hl 2 rfl) ?_
        refine lv_istore_n (lv' := [(3, .int (nI n)), (2, .int (nI (bfs_cnt (bfs_bf st.1) 10000 (st.2.getD n 0)))), (0, .ref y0), (1, .int (nI n))]) hx hb d_Mo_found_42 rfl hl (by decide) rfl (fun ls hl => ?_)
        exact lp_Mo_found2 hM hnd hn hlen (f1 := f1) (f2 := f2) (sp := sp) C hA hK hst 10000 (bfs_cnt (bfs_bf st.1) 10000 (st.2.getD n 0)) n f1 f2 (Nat.le_refl _) (by omega) hn rfl _ _ ls hP hD hS (lv_sub hl [2, 3, 1, 0] rfl)
      · exact absurd (by rw [e1]; decide) c_48
    · have e4 := e3 f
      refine lv_aload_n hx hb d_Mo_found_7 rfl (lv_at hl 0 rfl) ?_
      refine zz_get C hK hP fl_Mo_31 0 rfl rfl d_Mo_found_8 ?_
      refine lv_iload_n hx hb d_Mo_found_11 rfl (lv_at hl 2 rfl) ?_
      refine zz_ialdN C hK hP 3 rfl (j := k) (by omega) (by omega) d_Mo_found_12 ?_
      refine lv_if_lt (tgt := 36) hx hb d_Mo_found_13 (by decide) (fun c_49 => ?_) (fun c_49 => ?_)
      · exact absurd c_49 (by rw [e2]; exact nI_pos (by omega))
      · refine lv_aload_n hx hb d_Mo_found_16 rfl (lv_at hl 0 rfl) ?_
        refine lv_dup hx hb d_Mo_found_17 rfl ?_
        refine zz_get C hK hP fl_Mo_78 0 rfl rfl d_Mo_found_18 ?_
        refine lv_iconst (v := 1) hx hb d_Mo_found_21 (by decide) ?_
        refine lv_iadd hx hb d_Mo_found_22 ?_
        refine zz_eqi (y := nI (q + 1)) (nI_1 _) ?_
        refine zz_put C hK hP hD hS fl_Mo_78 0 rfl rfl rfl (Nat.le_of_ble_eq_true rfl) d_Mo_found_23 (fun H locs hP hD hS => ?_)
        have hP : va_P E.1 vwCl [(y0, .inr (7, [v0, v1, v2, v3, v4, v5, v6, .int (nI (q + 1)), .ref w1, .ref w2, v10, .ref w4, .ref w5, .ref w6, v14, v15, v16, v17, v18, v19, v20, v21, v22, v23, v24, v25, v26, v27])), (w1, zI E 10000 f1), (w2, zI E 10000 f2), (w4, zI E 10000 fP), (w5, zI E 10000 fA), (w6, zI E 10000 fB)] H := hP
        have hD : va_D A [(y0, .inr (7, [v0, v1, v2, v3, v4, v5, v6, .int (nI (q + 1)), .ref w1, .ref w2, v10, .ref w4, .ref w5, .ref w6, v14, v15, v16, v17, v18, v19, v20, v21, v22, v23, v24, v25, v26, v27])), (w1, zI E 10000 f1), (w2, zI E 10000 f2), (w4, zI E 10000 fP), (w5, zI E 10000 fA), (w6, zI E 10000 fB)] := hD
        refine lv_aload_n hx hb d_Mo_found_26 rfl (lv_at hl 0 rfl) ?_
        refine zz_get C hK hP fl_Mo_31 0 rfl rfl d_Mo_found_27 ?_
        refine lv_iload_n hx hb d_Mo_found_30 rfl (lv_at hl 2 rfl) ?_
        refine zz_ialdN C hK hP 3 rfl (j := k) (by omega) (by omega) d_Mo_found_31 ?_
        refine zz_eqi (y := nI k2) (e2) ?_
        refine lv_istore_n (lv' := [(2, .int (nI k2)), (0, .ref y0), (1, .int (nI n))]) hx hb d_Mo_found_32 rfl hl (by decide) rfl (fun ls hl => ?_)
        refine lv_goto (tgt := 7) hx hb d_Mo_found_33 (by decide) ?_
        exact ih (q + 1) k2 (by omega) (by omega) (by omega) (by omega) _ _ ls hP hD hS (lv_sub hl [1, 2, 0] rfl)

set_option maxHeartbeats 4000000 in
set_option maxRecDepth 100000 in
theorem c_Mo_found (l : Launch) (E : zG) (y0 : Nat) (v0 v1 v2 v3 v4 v5 v6 v10 v14 v15 v16 v17 v18 v19 v20 v21 v22 v23 v24 v25 v26 v27 : Value) (w1 w2 w4 w5 w6 : Nat) (f1 f2 fE fQ fP fA fB : Nat → Int32) (sp : Int32) (N n : Nat) (φ : Nat → Nat) (st : bS) (hM : mr N φ st fE fQ fP) (hnd : st.2.Nodup) (hn : n < st.2.length) (hlen : st.2.length ≤ 10000) : zMet l y_Mo_found b_Mo_found 4 (some .int) 0 0 0 0 E [.ref y0, .int (nI n)] [(y0, .inr (7, [v0, v1, v2, v3, v4, v5, v6, .int sp, .ref w1, .ref w2, v10, .ref w4, .ref w5, .ref w6, v14, v15, v16, v17, v18, v19, v20, v21, v22, v23, v24, v25, v26, v27])), (w1, zI E 10000 f1), (w2, zI E 10000 f2), (w4, zI E 10000 fP), (w5, zI E 10000 fA), (w6, zI E 10000 fB)] (zQi E (S := (Nat → Int32) × (Nat → Int32)) (fun r _ => r = nI (bfs_cnt (bfs_bf st.1) 10000 (st.2.getD n 0))) (fun u => [(y0, .inr (7, [v0, v1, v2, v3, v4, v5, v6, .int (nI (bfs_cnt (bfs_bf st.1) 10000 (st.2.getD n 0))), .ref w1, .ref w2, v10, .ref w4, .ref w5, .ref w6, v14, v15, v16, v17, v18, v19, v20, v21, v22, v23, v24, v25, v26, v27])), (w1, zI E 10000 u.1), (w2, zI E 10000 u.2), (w4, zI E 10000 fP), (w5, zI E 10000 fA), (w6, zI E 10000 fB)])) := by
  refine zz_met (by decide +kernel) (Nat.le_of_ble_eq_true rfl) ?_
  intro p e s m below meth c A ls C hin hA hK hst hP hD hl
  obtain ⟨hx, hb, hr, hml, hown, hts, hlk⟩ := id C
  have hS : va_S A s.heap s.heap [] := va_S.rf
  have hl : lv_has ls 4 [(0, .ref y0), (1, .int (nI n))] := hl
  refine lv_aload_n hx hb d_Mo_found_0 rfl (lv_at hl 0 rfl) ?_
  refine lv_iconst (v := 0) hx hb d_Mo_found_1 (by decide) ?_
  refine zz_eqi (y := nI 0) (rfl) ?_
  refine zz_put C hK hP hD hS fl_Mo_78 0 rfl rfl rfl (Nat.le_of_ble_eq_true rfl) d_Mo_found_2 (fun H locs hP hD hS => ?_)
  have hP : va_P E.1 vwCl [(y0, .inr (7, [v0, v1, v2, v3, v4, v5, v6, .int (nI 0), .ref w1, .ref w2, v10, .ref w4, .ref w5, .ref w6, v14, v15, v16, v17, v18, v19, v20, v21, v22, v23, v24, v25, v26, v27])), (w1, zI E 10000 f1), (w2, zI E 10000 f2), (w4, zI E 10000 fP), (w5, zI E 10000 fA), (w6, zI E 10000 fB)] H := hP
  have hD : va_D A [(y0, .inr (7, [v0, v1, v2, v3, v4, v5, v6, .int (nI 0), .ref w1, .ref w2, v10, .ref w4, .ref w5, .ref w6, v14, v15, v16, v17, v18, v19, v20, v21, v22, v23, v24, v25, v26, v27])), (w1, zI E 10000 f1), (w2, zI E 10000 f2), (w4, zI E 10000 fP), (w5, zI E 10000 fA), (w6, zI E 10000 fB)] := hD
  refine lv_iload_n hx hb d_Mo_found_5 rfl (lv_at hl 1 rfl) ?_
  refine lv_istore_n (lv' := [(2, .int (nI n)), (0, .ref y0), (1, .int (nI n))]) hx hb d_Mo_found_6 rfl hl (by decide) rfl (fun ls hl => ?_)
  exact lp_Mo_found1 hM hnd hn hlen (f1 := f1) (f2 := f2) (sp := sp) C hA hK hst 10000 0 n (Nat.le_refl _) (by omega) hn (Nat.zero_add _) _ _ ls hP hD hS (lv_sub hl [1, 2, 0] rfl)
