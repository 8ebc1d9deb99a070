set_option maxHeartbeats 4000000 in
set_option maxRecDepth 100000 in
theorem c_Mo_byteAt (l : Launch) (E : zG) (y0 : Nat) (v0 v1 v2 v3 v4 v7 v8 v9 v10 v11 v12 v13 v14 v15 v16 v17 v18 v19 v20 v21 v22 v23 v24 v25 v26 v27 : Value) (z5 k j : Nat) (fU : Nat → Int32) (hk : k ≤ 100) (hj : j < 1000) : zMet l y_Mo_byteAt b_Mo_byteAt 2 (some .int) 0 0 0 0 E [.ref y0, .int (nI j)] [(y0, .inr (7, [v0, v1, v2, v3, v4, .int (nI k), .ref z5, v7, v8, v9, v10, v11, v12, v13, v14, v15, v16, v17, v18, v19, v20, v21, v22, v23, v24, v25, v26, v27])), (z5, zI E 100 fU)] (zQi E (S := Unit) (fun r _ => r = rt_u fU k j) (fun _ => [(y0, .inr (7, [v0, v1, v2, v3, v4, .int (nI k), .ref z5, v7, v8, v9, v10, v11, v12, v13, v14, v15, v16, v17, v18, v19, v20, v21, v22, v23, v24, v25, v26, v27])), (z5, zI E 100 fU)])) := by
  refine zz_met (by decide +kernel) (Nat.le_of_ble_eq_true rfl) ?_
  intro p e s m below meth c A ls C hin hA hK hst hP hD hl
  obtain ⟨hx, hb, hr, hml, hown, hts, hlk⟩ := id C
  have hS : va_S A s.heap s.heap [] := va_S.rf
  have hl : lv_has ls 2 [(0, .ref y0), (1, .int (nI j))] := hl
  refine lv_iload_n hx hb d_Mo_byteAt_0 rfl (lv_at hl 1 rfl) ?_
  refine lv_aload_n hx hb d_Mo_byteAt_1 rfl (lv_at hl 0 rfl) ?_
  refine zz_get C hK hP fl_Mo_111 0 rfl rfl d_Mo_byteAt_2 ?_
  refine lv_icmp_ge (tgt := 17) hx hb d_Mo_byteAt_5 (by decide) (fun c_1 => ?_) (fun c_1 => ?_)
  · refine lv_iconst (v := (-1)) hx hb d_Mo_byteAt_17 (by decide) ?_
    exact zz_reti C (rfl) hS () ((if_neg (fun z => absurd c_1 (nI_ge z (by omega)))).symm) hP hD d_Mo_byteAt_18
  · have hjk : j < k := zz_ltc c_1 (by omega)
    refine lv_aload_n hx hb d_Mo_byteAt_8 rfl (lv_at hl 0 rfl) ?_
    refine zz_get C hK hP fl_Mo_19 0 rfl rfl d_Mo_byteAt_9 ?_
    refine lv_iload_n hx hb d_Mo_byteAt_12 rfl (lv_at hl 1 rfl) ?_
    refine zz_ialdN C hK hP 1 rfl (j := j) (by omega) (by omega) d_Mo_byteAt_13 ?_
    refine lv_goto (tgt := 18) hx hb d_Mo_byteAt_14 (by decide) ?_
    exact zz_reti C (rfl) hS () ((if_pos hjk).symm) hP hD d_Mo_byteAt_18

set_option maxHeartbeats 4000000 in
set_option maxRecDepth 100000 in
theorem c_Mo_thingOf (l : Launch) (E : zG) (y0 : Nat) (v0 v1 v2 v3 v4 v5 v6 v7 v8 v9 v10 v11 v12 v13 v14 v15 v16 v17 v18 v20 v21 v22 v23 v24 v25 v26 v27 : Value) (z6 : Nat) (fL : Nat → Int32) (x : Int32) : zMet l y_Mo_thingOf b_Mo_thingOf 2 (some .int) 0 0 0 0 E [.ref y0, .int x] [(y0, .inr (7, [v0, v1, v2, v3, v4, v5, v6, v7, v8, v9, v10, v11, v12, v13, v14, v15, v16, v17, v18, .ref z6, v20, v21, v22, v23, v24, v25, v26, v27])), (z6, zI E 8 fL)] (zQi E (S := Unit) (fun r _ => r = rv_thing fL x) (fun _ => [(y0, .inr (7, [v0, v1, v2, v3, v4, v5, v6, v7, v8, v9, v10, v11, v12, v13, v14, v15, v16, v17, v18, .ref z6, v20, v21, v22, v23, v24, v25, v26, v27])), (z6, zI E 8 fL)])) := by
  refine zz_met (by decide +kernel) (Nat.le_of_ble_eq_true rfl) ?_
  intro p e s m below meth c A ls C hin hA hK hst hP hD hl
  obtain ⟨hx, hb, hr, hml, hown, hts, hlk⟩ := id C
  have hS : va_S A s.heap s.heap [] := va_S.rf
  have hl : lv_has ls 2 [(0, .ref y0), (1, .int x)] := hl
  refine lv_iload_n hx hb d_Mo_thingOf_0 rfl (lv_at hl 1 rfl) ?_
  refine lv_bipush (v := 97) hx hb d_Mo_thingOf_1 (by decide) ?_
  refine lv_icmp_lt (tgt := 24) hx hb d_Mo_thingOf_3 (by decide) (fun c_2 => ?_) (fun c_2 => ?_)
  · refine lv_iconst (v := (-1)) hx hb d_Mo_thingOf_24 (by decide) ?_
    exact zz_reti C (rfl) hS () ((rv_thing_out (Or.inl c_2)).symm) hP hD d_Mo_thingOf_25
  · refine lv_iload_n hx hb d_Mo_thingOf_6 rfl (lv_at hl 1 rfl) ?_
    refine lv_bipush (v := 104) hx hb d_Mo_thingOf_7 (by decide) ?_
    refine lv_icmp_gt (tgt := 24) hx hb d_Mo_thingOf_9 (by decide) (fun c_3 => ?_) (fun c_3 => ?_)
    · refine lv_iconst (v := (-1)) hx hb d_Mo_thingOf_24 (by decide) ?_
      exact zz_reti C (rfl) hS () ((rv_thing_out (Or.inr c_3)).symm) hP hD d_Mo_thingOf_25
    · refine lv_aload_n hx hb d_Mo_thingOf_12 rfl (lv_at hl 0 rfl) ?_
      refine zz_get C hK hP fl_Mo_47 0 rfl rfl d_Mo_thingOf_13 ?_
      refine lv_iload_n hx hb d_Mo_thingOf_16 rfl (lv_at hl 1 rfl) ?_
      refine lv_bipush (v := 97) hx hb d_Mo_thingOf_17 (by decide) ?_
      refine lv_isub hx hb d_Mo_thingOf_19 ?_
      refine zz_iald C hK hP 1 rfl (rv_vp8 ((rv_lett x).mpr ⟨c_2, c_3⟩).1 ((rv_lett x).mpr ⟨c_2, c_3⟩).2) d_Mo_thingOf_20 ?_
      refine lv_goto (tgt := 25) hx hb d_Mo_thingOf_21 (by decide) ?_
      exact zz_reti C (rfl) hS () ((rv_thing_in c_2 c_3).symm) hP hD d_Mo_thingOf_25

set_option maxHeartbeats 4000000 in
set_option maxRecDepth 100000 in
theorem lp_Mo_countOf {p : Program} {l : Launch} {e : Env} {s : State} {m : MethodId} {below : List Frame} {meth : Method} {c : Code} {A : Nat → Prop}  {E : zG} {y0 : Nat} {v0 v1 v2 v3 v4 v5 v6 v7 v8 v9 v10 v11 v12 v13 v14 v15 v16 v17 v18 v19 v20 v21 v22 v23 v24 v25 v26 v27 : Value} {k : Nat} (hk : k < 256) (C : cx p s m #[.ref y0, .int (nI k)] meth c b_Mo_countOf 4 y_Mo_countOf.cls (some .int)) (hA : ∀ q, s.heap.size ≤ q → A q) (hK : kt E s) (hst : stt A s s.heap) :
    ∀ (f i : Nat) (_ : i + f = 8) (H : Heap) (locs : List Loc) (ls : Array Slot), va_P E.1 vwCl [(y0, .inr (7, [v0, v1, v2, v3, v4, v5, v6, v7, v8, v9, v10, v11, v12, v13, v14, v15, v16, v17, v18, v19, v20, v21, v22, v23, v24, v25, v26, v27]))] H → va_D A [(y0, .inr (7, [v0, v1, v2, v3, v4, v5, v6, v7, v8, v9, v10, v11, v12, v13, v14, v15, v16, v17, v18, v19, v20, v21, v22, v23, v24, v25, v26, v27]))] → va_S A s.heap H locs → lv_has ls 4 [(0, .ref y0), (1, .int (nI k)), (2, .int (nI (mo_cnt k i))), (3, .int (nI i))] → W p l e (zR 0 0 0 0) s m #[.ref y0, .int (nI k)] below meth c H locs 0 0 (MQ below ((zQi E (S := Unit) (fun r _ => r = nI (rv_pop k)) (fun _ => [(y0, .inr (7, [v0, v1, v2, v3, v4, v5, v6, v7, v8, v9, v10, v11, v12, v13, v14, v15, v16, v17, v18, v19, v20, v21, v22, v23, v24, v25, v26, v27]))])) A) #[.ref y0, .int (nI k)] s 0 0 A) (F0 m 4 ls []) := by
  obtain ⟨hx, hb, hr, hml, hown, hts, hlk⟩ := id C
  intro f
  induction f with
  | zero =>
    intro i hi H locs ls hP hD hS hl
    have hi : i = 8 := by omega
    subst hi
    refine lv_iload_n hx hb d_Mo_countOf_4 rfl (lv_at hl 3 rfl) ?_
    refine lv_bipush (v := 8) hx hb d_Mo_countOf_5 (by decide) ?_
    refine lv_icmp_ge (tgt := 24) hx hb d_Mo_countOf_7 (by decide) (fun c_4 => ?_) (fun c_4 => ?_)
    · refine lv_iload_n hx hb d_Mo_countOf_24 rfl (lv_at hl 2 rfl) ?_
      exact zz_reti C (rfl) hS () (by rw [mo_cnt_pop]) hP hD d_Mo_countOf_25
    · exact absurd (nI_le (b := 8) (Nat.le_refl _) (by decide)) c_4
  | succ f ih =>
    intro i hi H locs ls hP hD hS hl
    refine lv_iload_n hx hb d_Mo_countOf_4 rfl (lv_at hl 3 rfl) ?_
    refine lv_bipush (v := 8) hx hb d_Mo_countOf_5 (by decide) ?_
    refine lv_icmp_ge (tgt := 24) hx hb d_Mo_countOf_7 (by decide) (fun c_5 => ?_) (fun c_5 => ?_)
    · exact absurd c_5 (nI_ge (b := 8) (by omega) (by decide))
    · refine lv_iload_n hx hb d_Mo_countOf_10 rfl (lv_at hl 2 rfl) ?_
      refine lv_iload_n hx hb d_Mo_countOf_11 rfl (lv_at hl 1 rfl) ?_
      refine lv_iload_n hx hb d_Mo_countOf_12 rfl (lv_at hl 3 rfl) ?_
      refine lv_ishr hx hb d_Mo_countOf_13 ?_
      refine lv_iconst (v := 1) hx hb d_Mo_countOf_14 (by decide) ?_
      refine lv_iand hx hb d_Mo_countOf_15 ?_
      refine zz_eqi (y := nI (k / 2 ^ i % 2)) (rv_bitE hk (by omega)) ?_
      refine lv_iadd hx hb d_Mo_countOf_16 ?_
      refine zz_eqi (y := nI (mo_cnt k (i + 1))) (nI_add _ _) ?_
      refine lv_istore_n (lv' := [(2, .int (nI (mo_cnt k (i + 1)))), (0, .ref y0), (1, .int (nI k)), (3, .int (nI i))]) hx hb d_Mo_countOf_17 rfl hl (by decide) rfl (fun ls hl => ?_)
      refine lv_iinc (v := nI (i + 1)) (lv' := [(3, .int (nI (i + 1))), (2, .int (nI (mo_cnt k (i + 1)))), (0, .ref y0), (1, .int (nI k))]) hx hb d_Mo_countOf_18 hl (k := 3) rfl (nI_1 _) (by decide) rfl (fun ls hl => ?_)
      refine lv_goto (tgt := 4) hx hb d_Mo_countOf_21 (by decide) ?_
      exact ih (i + 1) (by omega) _ _ ls hP hD hS (lv_sub hl [2, 3, 1, 0] rfl)

set_option maxHeartbeats 4000000 in
set_option maxRecDepth 100000 in
theorem c_Mo_countOf (l : Launch) (E : zG) (y0 : Nat) (v0 v1 v2 v3 v4 v5 v6 v7 v8 v9 v10 v11 v12 v13 v14 v15 v16 v17 v18 v19 v20 v21 v22 v23 v24 v25 v26 v27 : Value) (k : Nat) (hk : k < 256) : zMet l y_Mo_countOf b_Mo_countOf 4 (some .int) 0 0 0 0 E [.ref y0, .int (nI k)] [(y0, .inr (7, [v0, v1, v2, v3, v4, v5, v6, v7, v8, v9, v10, v11, v12, v13, v14, v15, v16, v17, v18, v19, v20, v21, v22, v23, v24, v25, v26, v27]))] (zQi E (S := Unit) (fun r _ => r = nI (rv_pop k)) (fun _ => [(y0, .inr (7, [v0, v1, v2, v3, v4, v5, v6, v7, v8, v9, v10, v11, v12, v13, v14, v15, v16, v17, v18, v19, v20, v21, v22, v23, v24, v25, v26, v27]))])) := by
  refine zz_met (by decide +kernel) (Nat.le_of_ble_eq_true rfl) ?_
  intro p e s m below meth c A ls C hin hA hK hst hP hD hl
  obtain ⟨hx, hb, hr, hml, hown, hts, hlk⟩ := id C
  have hS : va_S A s.heap s.heap [] := va_S.rf
  have hl : lv_has ls 4 [(0, .ref y0), (1, .int (nI k))] := hl
  refine lv_iconst (v := 0) hx hb d_Mo_countOf_0 (by decide) ?_
  refine zz_eqi (y := nI (mo_cnt k 0)) (rfl) ?_
  refine lv_istore_n (lv' := [(2, .int (nI (mo_cnt k 0))), (0, .ref y0), (1, .int (nI k))]) hx hb d_Mo_countOf_1 rfl hl (by decide) rfl (fun ls hl => ?_)
  refine lv_iconst (v := 0) hx hb d_Mo_countOf_2 (by decide) ?_
  refine zz_eqi (y := nI 0) (rfl) ?_
  refine lv_istore_n (lv' := [(3, .int (nI 0)), (2, .int (nI (mo_cnt k 0))), (0, .ref y0), (1, .int (nI k))]) hx hb d_Mo_countOf_3 rfl hl (by decide) rfl (fun ls hl => ?_)
  exact lp_Mo_countOf hk C hA hK hst 8 0 (by omega) _ _ ls hP hD hS (lv_sub hl [2, 3, 1, 0] rfl)

set_option maxHeartbeats 4000000 in
set_option maxRecDepth 100000 in
theorem lp_Mo_mayStay {p : Program} {l : Launch} {e : Env} {s : State} {m : MethodId} {below : List Frame} {meth : Method} {c : Code} {A : Nat → Prop}  {E : zG} {y0 : Nat} {v0 v1 v2 v3 v4 v5 v6 v7 v8 v9 v10 v11 v12 v13 v14 v15 v16 v18 v19 v21 v22 v23 v24 v25 v26 v27 : Value} {z7 tn k : Nat} {fN : Nat → Int32} {nw : Nat → Nat} (ht : tn ≤ 8) (hk : k < 256) (hN : ∀ j, j < 8 → fN j = nI (nw j) ∧ nw j < 256) (C : cx p s m #[.ref y0, .int (nI k)] meth c b_Mo_mayStay 3 y_Mo_mayStay.cls (some .boolean)) (hA : ∀ q, s.heap.size ≤ q → A q) (hK : kt E s) (hst : stt A s s.heap) :
    ∀ (f i : Nat) (_ : i + f = tn) (_ : ∀ j, j < i → k / 2 ^ j % 2 = 1 → nw j &&& k = 0) (H : Heap) (locs : List Loc) (ls : Array Slot), va_P E.1 vwCl [(y0, .inr (7, [v0, v1, v2, v3, v4, v5, v6, v7, v8, v9, v10, v11, v12, v13, v14, v15, v16, .int (nI tn), v18, v19, .ref z7, v21, v22, v23, v24, v25, v26, v27])), (z7, zI E 8 fN)] H → va_D A [(y0, .inr (7, [v0, v1, v2, v3, v4, v5, v6, v7, v8, v9, v10, v11, v12, v13, v14, v15, v16, .int (nI tn), v18, v19, .ref z7, v21, v22, v23, v24, v25, v26, v27])), (z7, zI E 8 fN)] → va_S A s.heap H locs → lv_has ls 3 [(0, .ref y0), (1, .int (nI k)), (2, .int (nI i))] → W p l e (zR 0 0 0 0) s m #[.ref y0, .int (nI k)] below meth c H locs 0 0 (MQ below ((zQi E (S := Unit) (fun r _ => ((∀ i, i < tn → k / 2 ^ i % 2 = 1 → nw i &&& k = 0) → r = 1) ∧ (¬ (∀ i, i < tn → k / 2 ^ i % 2 = 1 → nw i &&& k = 0) → r = 0)) (fun _ => [(y0, .inr (7, [v0, v1, v2, v3, v4, v5, v6, v7, v8, v9, v10, v11, v12, v13, v14, v15, v16, .int (nI tn), v18, v19, .ref z7, v21, v22, v23, v24, v25, v26, v27])), (z7, zI E 8 fN)])) A) #[.ref y0, .int (nI k)] s 0 0 A) (F0 m 2 ls []) := by
  obtain ⟨hx, hb, hr, hml, hown, hts, hlk⟩ := id C
  intro f
  induction f with
  | zero =>
    intro i hi hd H locs ls hP hD hS hl
    have hi : i = tn := by omega
    refine lv_iload_n hx hb d_Mo_mayStay_2 rfl (lv_at hl 2 rfl) ?_
    refine lv_aload_n hx hb d_Mo_mayStay_3 rfl (lv_at hl 0 rfl) ?_
    refine zz_get C hK hP fl_Mo_114 0 rfl rfl d_Mo_mayStay_4 ?_
    refine lv_icmp_ge (tgt := 38) hx hb d_Mo_mayStay_7 (by decide) (fun c_6 => ?_) (fun c_6 => ?_)
    · refine lv_iconst (v := 1) hx hb d_Mo_mayStay_38 (by decide) ?_
      exact zz_reti C (rfl) hS () (⟨fun _ => rfl, fun h => absurd (hi ▸ hd) h⟩) hP hD d_Mo_mayStay_39
    · exact absurd (nI_le (by omega) (by omega)) c_6
  | succ f ih =>
    intro i hi hd H locs ls hP hD hS hl
    have hit : i < tn := by omega
    have hq := hN i (by omega)
    refine lv_iload_n hx hb d_Mo_mayStay_2 rfl (lv_at hl 2 rfl) ?_
    refine lv_aload_n hx hb d_Mo_mayStay_3 rfl (lv_at hl 0 rfl) ?_
    refine zz_get C hK hP fl_Mo_114 0 rfl rfl d_Mo_mayStay_4 ?_
    refine lv_icmp_ge (tgt := 38) hx hb d_Mo_mayStay_7 (by decide) (fun c_7 => ?_) (fun c_7 => ?_)
    · exact absurd c_7 (nI_ge hit (by omega))
    · refine lv_iload_n hx hb d_Mo_mayStay_10 rfl (lv_at hl 1 rfl) ?_
      refine lv_iload_n hx hb d_Mo_mayStay_11 rfl (lv_at hl 2 rfl) ?_
      refine lv_ishr hx hb d_Mo_mayStay_12 ?_
      refine lv_iconst (v := 1) hx hb d_Mo_mayStay_13 (by decide) ?_
      refine lv_iand hx hb d_Mo_mayStay_14 ?_
      refine zz_eqi (y := nI (k / 2 ^ i % 2)) (rv_bitE hk (by omega)) ?_
      refine lv_iconst (v := 1) hx hb d_Mo_mayStay_15 (by decide) ?_
      refine lv_icmp_ne (tgt := 32) hx hb d_Mo_mayStay_16 (by decide) (fun c_8 => ?_) (fun c_8 => ?_)
      · refine lv_iinc (v := nI (i + 1)) (lv' := [(2, .int (nI (i + 1))), (0, .ref y0), (1, .int (nI k))]) hx hb d_Mo_mayStay_32 hl (k := 2) rfl (nI_1 _) (by decide) rfl (fun ls hl => ?_)
        refine lv_goto (tgt := 2) hx hb d_Mo_mayStay_35 (by decide) ?_
        exact ih (i + 1) (by omega) (lt_s hd (fun z => absurd (by rw [z]; rfl) c_8)) _ _ ls hP hD hS (lv_sub hl [1, 2, 0] rfl)
      · have hb1 : k / 2 ^ i % 2 = 1 := (nI_eq (b := 1) (by omega) (by decide)).mp c_8
        refine lv_aload_n hx hb d_Mo_mayStay_19 rfl (lv_at hl 0 rfl) ?_
        refine zz_get C hK hP fl_Mo_50 0 rfl rfl d_Mo_mayStay_20 ?_
        refine lv_iload_n hx hb d_Mo_mayStay_23 rfl (lv_at hl 2 rfl) ?_
        refine zz_ialdN C hK hP 1 rfl (j := i) (by omega) (by omega) d_Mo_mayStay_24 ?_
        refine lv_iload_n hx hb d_Mo_mayStay_25 rfl (lv_at hl 1 rfl) ?_
        refine lv_iand hx hb d_Mo_mayStay_26 ?_
        refine zz_eqi (y := nI (nw i &&& k)) (by rw [hq.1]; exact nI_and _ _) ?_
        refine lv_if_eq (tgt := 32) hx hb d_Mo_mayStay_27 (by decide) (fun c_9 => ?_) (fun c_9 => ?_)
        · refine lv_iinc (v := nI (i + 1)) (lv' := [(2, .int (nI (i + 1))), (0, .ref y0), (1, .int (nI k))]) hx hb d_Mo_mayStay_32 hl (k := 2) rfl (nI_1 _) (by decide) rfl (fun ls hl => ?_)
          refine lv_goto (tgt := 2) hx hb d_Mo_mayStay_35 (by decide) ?_
          exact ih (i + 1) (by omega) (lt_s hd (fun _ => zz_nI0 c_9 (Nat.lt_of_le_of_lt Nat.and_le_left (Nat.lt_trans hq.2 (by decide))))) _ _ ls hP hD hS (lv_sub hl [1, 2, 0] rfl)
        · refine lv_iconst (v := 0) hx hb d_Mo_mayStay_30 (by decide) ?_
          exact zz_reti C (rfl) hS () (⟨fun h => absurd (by rw [h i hit hb1]; rfl) c_9, fun _ => rfl⟩) hP hD d_Mo_mayStay_31

set_option maxHeartbeats 4000000 in
set_option maxRecDepth 100000 in
theorem c_Mo_mayStay (l : Launch) (E : zG) (y0 : Nat) (v0 v1 v2 v3 v4 v5 v6 v7 v8 v9 v10 v11 v12 v13 v14 v15 v16 v18 v19 v21 v22 v23 v24 v25 v26 v27 : Value) (z7 tn k : Nat) (fN : Nat → Int32) (nw : Nat → Nat) (ht : tn ≤ 8) (hk : k < 256) (hN : ∀ j, j < 8 → fN j = nI (nw j) ∧ nw j < 256) : zMet l y_Mo_mayStay b_Mo_mayStay 3 (some .boolean) 0 0 0 0 E [.ref y0, .int (nI k)] [(y0, .inr (7, [v0, v1, v2, v3, v4, v5, v6, v7, v8, v9, v10, v11, v12, v13, v14, v15, v16, .int (nI tn), v18, v19, .ref z7, v21, v22, v23, v24, v25, v26, v27])), (z7, zI E 8 fN)] (zQi E (S := Unit) (fun r _ => ((∀ i, i < tn → k / 2 ^ i % 2 = 1 → nw i &&& k = 0) → r = 1) ∧ (¬ (∀ i, i < tn → k / 2 ^ i % 2 = 1 → nw i &&& k = 0) → r = 0)) (fun _ => [(y0, .inr (7, [v0, v1, v2, v3, v4, v5, v6, v7, v8, v9, v10, v11, v12, v13, v14, v15, v16, .int (nI tn), v18, v19, .ref z7, v21, v22, v23, v24, v25, v26, v27])), (z7, zI E 8 fN)])) := by
  refine zz_met (by decide +kernel) (Nat.le_of_ble_eq_true rfl) ?_
  intro p e s m below meth c A ls C hin hA hK hst hP hD hl
  obtain ⟨hx, hb, hr, hml, hown, hts, hlk⟩ := id C
  have hS : va_S A s.heap s.heap [] := va_S.rf
  have hl : lv_has ls 3 [(0, .ref y0), (1, .int (nI k))] := hl
  refine lv_iconst (v := 0) hx hb d_Mo_mayStay_0 (by decide) ?_
  refine zz_eqi (y := nI 0) (rfl) ?_
  refine lv_istore_n (lv' := [(2, .int (nI 0)), (0, .ref y0), (1, .int (nI k))]) hx hb d_Mo_mayStay_1 rfl hl (by decide) rfl (fun ls hl => ?_)
  exact lp_Mo_mayStay ht hk hN C hA hK hst tn 0 (by omega) (fun j hj => absurd hj (Nat.not_lt_zero j)) _ _ ls hP hD hS (lv_sub hl [1, 2, 0] rfl)

set_option maxHeartbeats 4000000 in
set_option maxRecDepth 100000 in
theorem lp_Mo_pairs {p : Program} {l : Launch} {e : Env} {s : State} {m : MethodId} {below : List Frame} {meth : Method} {c : Code} {A : Nat → Prop}  {E : zG} {y0 : Nat} {v0 v1 v2 v3 v4 v7 v8 v9 v10 v11 v12 v13 v14 v15 v16 v21 v22 v23 v24 v25 v26 v27 : Value} {z5 z6 z7 k : Nat} {fU : Nat → Int32} (hk : k ≤ 100) {fL0 fN0 fL : Nat → Int32} {t : Nat} (hL0 : ∀ j, j < 8 → fL0 j = -1) (hN0 : ∀ j, j < 8 → fN0 j = 0) (hT : (rt_things (rt_u fU k) 100 0 (fL0, 0)).2.1 = fL) (ht : (rt_things (rt_u fU k) 100 0 (fL0, 0)).2.2 = t) (hp0 : ¬ (rt_things (rt_u fU k) 100 0 (fL0, 0)).1 = 0) (hok : rt_ok fL t) (ht8 : t ≤ 8) (C : cx p s m #[.ref y0] meth c b_Mo_parse 4 y_Mo_parse.cls (some .int)) (hA : ∀ q, s.heap.size ≤ q → A q) (hK : kt E s) (hst : stt A s s.heap) :
    ∀ (f q : Nat) (fN : Nat → Int32) (bo : Int32) (_ : 100 < q + 3 * f) (_ : q < 500) (_ : rt_pairs (rt_u fU k) k fL t f q (fN, 0) = (rt_pairs (rt_u fU k) k fL t 100 (rt_things (rt_u fU k) 100 0 (fL0, 0)).1 (fN0, 0))) (H : Heap) (locs : List Loc) (ls : Array Slot), va_P E.1 vwCl [(y0, .inr (7, [v0, v1, v2, v3, v4, .int (nI k), .ref z5, v7, v8, v9, v10, v11, v12, v13, v14, v15, v16, .int (nI t), .int bo, .ref z6, .ref z7, v21, v22, v23, v24, v25, v26, v27])), (z5, zI E 100 fU), (z6, zI E 8 fL), (z7, zI E 8 fN)] H → va_D A [(y0, .inr (7, [v0, v1, v2, v3, v4, .int (nI k), .ref z5, v7, v8, v9, v10, v11, v12, v13, v14, v15, v16, .int (nI t), .int bo, .ref z6, .ref z7, v21, v22, v23, v24, v25, v26, v27])), (z5, zI E 100 fU), (z6, zI E 8 fL), (z7, zI E 8 fN)] → va_S A s.heap H locs → lv_has ls 4 [(0, .ref y0), (1, .int (nI q))] → W p l e (zR 1 21 0 0) s m #[.ref y0] below meth c H locs 0 0 (MQ below ((zQi E (S := (Nat → Int32) × (Nat → Int32) × Nat × Int32) (fun r u => ∃ fL0 fN0 : Nat → Int32, (∀ j, j < 8 → fL0 j = -1) ∧ (∀ j, j < 8 → fN0 j = 0) ∧ u.2.2.1 = (rt_things (rt_u fU k) 100 0 (fL0, 0)).2.2 ∧ ((rt_things (rt_u fU k) 100 0 (fL0, 0)).1 = 0 → r = 0) ∧ (¬ (rt_things (rt_u fU k) 100 0 (fL0, 0)).1 = 0 → r = (rt_pairs (rt_u fU k) k (rt_things (rt_u fU k) 100 0 (fL0, 0)).2.1 u.2.2.1 100 (rt_things (rt_u fU k) 100 0 (fL0, 0)).1 (fN0, 0)).1 ∧ u.2.1 = (rt_pairs (rt_u fU k) k (rt_things (rt_u fU k) 100 0 (fL0, 0)).2.1 u.2.2.1 100 (rt_things (rt_u fU k) 100 0 (fL0, 0)).1 (fN0, 0)).2.1 ∧ (r = -1 → u.2.2.2 = (rt_pairs (rt_u fU k) k (rt_things (rt_u fU k) 100 0 (fL0, 0)).2.1 u.2.2.1 100 (rt_things (rt_u fU k) 100 0 (fL0, 0)).1 (fN0, 0)).2.2))) (fun u => [(y0, .inr (7, [v0, v1, v2, v3, v4, .int (nI k), .ref z5, v7, v8, v9, v10, v11, v12, v13, v14, v15, v16, .int (nI u.2.2.1), .int u.2.2.2, .ref z6, .ref z7, v21, v22, v23, v24, v25, v26, v27])), (z5, zI E 100 fU), (z6, zI E 8 u.1), (z7, zI E 8 u.2.1)])) A) #[.ref y0] s 0 0 A) (F0 m 109 ls []) := by
  obtain ⟨hx, hb, hr, hml, hown, hts, hlk⟩ := id C
  intro f
  induction f with
  | zero =>
    intro q fN bo hf hq hgo H locs ls hP hD hS hl
    refine lv_aload_n hx hb d_Mo_parse_109 rfl (lv_at hl 0 rfl) ?_
    refine lv_iload_n hx hb d_Mo_parse_110 rfl (lv_at hl 1 rfl) ?_
    refine zz_goi (wr := [(z6, zI E 8 fL), (z7, zI E 8 fN)]) [0, 1] [2, 3] rfl rfl (by decide) (by decide) hA hP hD hS (zz_runV (wc := [(y0, .inr (7, [v0, v1, v2, v3, v4, .int (nI k), .ref z5, v7, v8, v9, v10, v11, v12, v13, v14, v15, v16, .int (nI t), .int bo, .ref z6, .ref z7, v21, v22, v23, v24, v25, v26, v27])), (z5, zI E 100 fU)]) (As := [.int (nI q)]) (rest := []) C (c_Mo_byteAt l E y0 v0 v1 v2 v3 v4 v7 v8 v9 v10 v11 v12 v13 v14 v15 v16 (.int (nI t)) (.int bo) (.ref z6) (.ref z7) v21 v22 v23 v24 v25 v26 v27 z5 k q fU hk (by omega)) ym_Mo_byteAt wd_ml_Mo_117 wd_im_Mo_byteAt wd_se_Mo_byteAt [0, 1] (by decide) rfl hA hK hst hP hD hS (ci := 7) (q0 := 0) rfl rfl rfl rfl hl.1 rfl (Nat.le_of_ble_eq_true rfl) ⟨Nat.le_of_ble_eq_true rfl, Nat.le_of_ble_eq_true rfl⟩ ⟨Nat.le_of_ble_eq_true rfl, Nat.le_of_ble_eq_true rfl⟩ d_Mo_parse_111) (fun r_10 u H locs hwb hP hD hS => ?_)
    have hP : va_P E.1 vwCl [(z6, zI E 8 fL), (z7, zI E 8 fN), (y0, .inr (7, [v0, v1, v2, v3, v4, .int (nI k), .ref z5, v7, v8, v9, v10, v11, v12, v13, v14, v15, v16, .int (nI t), .int bo, .ref z6, .ref z7, v21, v22, v23, v24, v25, v26, v27])), (z5, zI E 100 fU)] H := hP
    have hD : va_D A [(z6, zI E 8 fL), (z7, zI E 8 fN), (y0, .inr (7, [v0, v1, v2, v3, v4, .int (nI k), .ref z5, v7, v8, v9, v10, v11, v12, v13, v14, v15, v16, .int (nI t), .int bo, .ref z6, .ref z7, v21, v22, v23, v24, v25, v26, v27])), (z5, zI E 100 fU)] := hD
    subst hwb
    have hP := hP.sub (ws' := [(y0, .inr (7, [v0, v1, v2, v3, v4, .int (nI k), .ref z5, v7, v8, v9, v10, v11, v12, v13, v14, v15, v16, .int (nI t), .int bo, .ref z6, .ref z7, v21, v22, v23, v24, v25, v26, v27])), (z5, zI E 100 fU), (z6, zI E 8 fL), (z7, zI E 8 fN)]) [2, 3, 0, 1] rfl
    have hD := hD.sub (ws' := [(y0, .inr (7, [v0, v1, v2, v3, v4, .int (nI k), .ref z5, v7, v8, v9, v10, v11, v12, v13, v14, v15, v16, .int (nI t), .int bo, .ref z6, .ref z7, v21, v22, v23, v24, v25, v26, v27])), (z5, zI E 100 fU), (z6, zI E 8 fL), (z7, zI E 8 fN)]) [2, 3, 0, 1] (by decide) rfl
    refine lv_bipush (v := 32) hx hb d_Mo_parse_114 (by decide) ?_
    refine lv_icmp_eq (tgt := 121) hx hb d_Mo_parse_116 (by decide) (fun c_11 => ?_) (fun c_11 => ?_)
    · exact absurd c_11 (by rw [rt_u_32 (by omega)]; decide)
    · refine lv_iload_n hx hb d_Mo_parse_119 rfl (lv_at hl 1 rfl) ?_
      have hrf : (rt_pairs (rt_u fU k) k fL t 100 (rt_things (rt_u fU k) 100 0 (fL0, 0)).1 (fN0, 0)) = (nI (q), fN, 0) := by rw [← hgo]; exact rfl
      exact zz_reti C (rfl) hS (fL, fN, t, bo) (⟨fL0, fN0, hL0, hN0, ht.symm, fun z => absurd z hp0, fun _ => by
        show _ = (rt_pairs (rt_u fU k) k (rt_things (rt_u fU k) 100 0 (fL0, 0)).2.1 t 100 (rt_things (rt_u fU k) 100 0 (fL0, 0)).1 (fN0, 0)).1 ∧ fN = (rt_pairs (rt_u fU k) k (rt_things (rt_u fU k) 100 0 (fL0, 0)).2.1 t 100 (rt_things (rt_u fU k) 100 0 (fL0, 0)).1 (fN0, 0)).2.1 ∧ (_ = -1 → bo = _)
        rw [hT, hrf]
        exact ⟨rfl, rfl, fun z => absurd z (zz_nm1 (by omega))⟩⟩) hP hD d_Mo_parse_120
  | succ f ih =>
    intro q fN bo hf hq hgo H locs ls hP hD hS hl
    refine lv_aload_n hx hb d_Mo_parse_109 rfl (lv_at hl 0 rfl) ?_
    refine lv_iload_n hx hb d_Mo_parse_110 rfl (lv_at hl 1 rfl) ?_
    refine zz_goi (wr := [(z6, zI E 8 fL), (z7, zI E 8 fN)]) [0, 1] [2, 3] rfl rfl (by decide) (by decide) hA hP hD hS (zz_runV (wc := [(y0, .inr (7, [v0, v1, v2, v3, v4, .int (nI k), .ref z5, v7, v8, v9, v10, v11, v12, v13, v14, v15, v16, .int (nI t), .int bo, .ref z6, .ref z7, v21, v22, v23, v24, v25, v26, v27])), (z5, zI E 100 fU)]) (As := [.int (nI q)]) (rest := []) C (c_Mo_byteAt l E y0 v0 v1 v2 v3 v4 v7 v8 v9 v10 v11 v12 v13 v14 v15 v16 (.int (nI t)) (.int bo) (.ref z6) (.ref z7) v21 v22 v23 v24 v25 v26 v27 z5 k q fU hk (by omega)) ym_Mo_byteAt wd_ml_Mo_117 wd_im_Mo_byteAt wd_se_Mo_byteAt [0, 1] (by decide) rfl hA hK hst hP hD hS (ci := 7) (q0 := 0) rfl rfl rfl rfl hl.1 rfl (Nat.le_of_ble_eq_true rfl) ⟨Nat.le_of_ble_eq_true rfl, Nat.le_of_ble_eq_true rfl⟩ ⟨Nat.le_of_ble_eq_true rfl, Nat.le_of_ble_eq_true rfl⟩ d_Mo_parse_111) (fun r_12 u H locs hwb hP hD hS => ?_)
    have hP : va_P E.1 vwCl [(z6, zI E 8 fL), (z7, zI E 8 fN), (y0, .inr (7, [v0, v1, v2, v3, v4, .int (nI k), .ref z5, v7, v8, v9, v10, v11, v12, v13, v14, v15, v16, .int (nI t), .int bo, .ref z6, .ref z7, v21, v22, v23, v24, v25, v26, v27])), (z5, zI E 100 fU)] H := hP
    have hD : va_D A [(z6, zI E 8 fL), (z7, zI E 8 fN), (y0, .inr (7, [v0, v1, v2, v3, v4, .int (nI k), .ref z5, v7, v8, v9, v10, v11, v12, v13, v14, v15, v16, .int (nI t), .int bo, .ref z6, .ref z7, v21, v22, v23, v24, v25, v26, v27])), (z5, zI E 100 fU)] := hD
    subst hwb
    have hP := hP.sub (ws' := [(y0, .inr (7, [v0, v1, v2, v3, v4, .int (nI k), .ref z5, v7, v8, v9, v10, v11, v12, v13, v14, v15, v16, .int (nI t), .int bo, .ref z6, .ref z7, v21, v22, v23, v24, v25, v26, v27])), (z5, zI E 100 fU), (z6, zI E 8 fL), (z7, zI E 8 fN)]) [2, 3, 0, 1] rfl
    have hD := hD.sub (ws' := [(y0, .inr (7, [v0, v1, v2, v3, v4, .int (nI k), .ref z5, v7, v8, v9, v10, v11, v12, v13, v14, v15, v16, .int (nI t), .int bo, .ref z6, .ref z7, v21, v22, v23, v24, v25, v26, v27])), (z5, zI E 100 fU), (z6, zI E 8 fL), (z7, zI E 8 fN)]) [2, 3, 0, 1] (by decide) rfl
    refine lv_bipush (v := 32) hx hb d_Mo_parse_114 (by decide) ?_
    refine lv_icmp_eq (tgt := 121) hx hb d_Mo_parse_116 (by decide) (fun c_13 => ?_) (fun c_13 => ?_)
    · have h32 := c_13
      have hqk : q < k := by
        rcases Nat.lt_or_ge q k with z | z
        · exact z
        · rw [rt_u_32 z] at h32
          exact absurd h32 (by decide)
      refine lv_iinc (v := nI (q + 1)) (lv' := [(1, .int (nI (q + 1))), (0, .ref y0)]) hx hb d_Mo_parse_121 hl (k := 1) rfl (nI_1 _) (by decide) rfl (fun ls hl => ?_)
      refine lv_aload_n hx hb d_Mo_parse_124 rfl (lv_at hl 1 rfl) ?_
      refine lv_iload_n hx hb d_Mo_parse_125 rfl (lv_at hl 0 rfl) ?_
      refine zz_goi (wr := [(z6, zI E 8 fL), (z7, zI E 8 fN)]) [0, 1] [2, 3] rfl rfl (by decide) (by decide) hA hP hD hS (zz_runV (wc := [(y0, .inr (7, [v0, v1, v2, v3, v4, .int (nI k), .ref z5, v7, v8, v9, v10, v11, v12, v13, v14, v15, v16, .int (nI t), .int bo, .ref z6, .ref z7, v21, v22, v23, v24, v25, v26, v27])), (z5, zI E 100 fU)]) (As := [.int (nI (q + 1))]) (rest := []) C (c_Mo_byteAt l E y0 v0 v1 v2 v3 v4 v7 v8 v9 v10 v11 v12 v13 v14 v15 v16 (.int (nI t)) (.int bo) (.ref z6) (.ref z7) v21 v22 v23 v24 v25 v26 v27 z5 k (q + 1) fU hk (by omega)) ym_Mo_byteAt wd_ml_Mo_117 wd_im_Mo_byteAt wd_se_Mo_byteAt [0, 1] (by decide) rfl hA hK hst hP hD hS (ci := 7) (q0 := 0) rfl rfl rfl rfl hl.1 rfl (Nat.le_of_ble_eq_true rfl) ⟨Nat.le_of_ble_eq_true rfl, Nat.le_of_ble_eq_true rfl⟩ ⟨Nat.le_of_ble_eq_true rfl, Nat.le_of_ble_eq_true rfl⟩ d_Mo_parse_126) (fun r_14 u H locs hwb hP hD hS => ?_)
      have hP : va_P E.1 vwCl [(z6, zI E 8 fL), (z7, zI E 8 fN), (y0, .inr (7, [v0, v1, v2, v3, v4, .int (nI k), .ref z5, v7, v8, v9, v10, v11, v12, v13, v14, v15, v16, .int (nI t), .int bo, .ref z6, .ref z7, v21, v22, v23, v24, v25, v26, v27])), (z5, zI E 100 fU)] H := hP
      have hD : va_D A [(z6, zI E 8 fL), (z7, zI E 8 fN), (y0, .inr (7, [v0, v1, v2, v3, v4, .int (nI k), .ref z5, v7, v8, v9, v10, v11, v12, v13, v14, v15, v16, .int (nI t), .int bo, .ref z6, .ref z7, v21, v22, v23, v24, v25, v26, v27])), (z5, zI E 100 fU)] := hD
      subst hwb
      have hP := hP.sub (ws' := [(y0, .inr (7, [v0, v1, v2, v3, v4, .int (nI k), .ref z5, v7, v8, v9, v10, v11, v12, v13, v14, v15, v16, .int (nI t), .int bo, .ref z6, .ref z7, v21, v22, v23, v24, v25, v26, v27])), (z5, zI E 100 fU), (z6, zI E 8 fL), (z7, zI E 8 fN)]) [2, 3, 0, 1] rfl
      have hD := hD.sub (ws' := [(y0, .inr (7, [v0, v1, v2, v3, v4, .int (nI k), .ref z5, v7, v8, v9, v10, v11, v12, v13, v14, v15, v16, .int (nI t), .int bo, .ref z6, .ref z7, v21, v22, v23, v24, v25, v26, v27])), (z5, zI E 100 fU), (z6, zI E 8 fL), (z7, zI E 8 fN)]) [2, 3, 0, 1] (by decide) rfl
      refine lv_bipush (v := 49) hx hb d_Mo_parse_129 (by decide) ?_
      refine lv_icmp_lt (tgt := 174) hx hb d_Mo_parse_131 (by decide) (fun c_15 => ?_) (fun c_15 => ?_)
      · have hnd : ¬ (¬ (rt_u fU k (q + 1)) < 49 ∧ (rt_u fU k (q + 1)) ≤ 51) := fun z => z.1 c_15
        refine lv_aload_n hx hb d_Mo_parse_174 rfl (lv_at hl 1 rfl) ?_
        refine lv_aload_n hx hb d_Mo_parse_175 rfl (lv_at hl 1 rfl) ?_
        refine lv_iload_n hx hb d_Mo_parse_176 rfl (lv_at hl 0 rfl) ?_
        refine zz_goi (wr := [(z6, zI E 8 fL), (z7, zI E 8 fN)]) [0, 1] [2, 3] rfl rfl (by decide) (by decide) hA hP hD hS (zz_runV (wc := [(y0, .inr (7, [v0, v1, v2, v3, v4, .int (nI k), .ref z5, v7, v8, v9, v10, v11, v12, v13, v14, v15, v16, .int (nI t), .int bo, .ref z6, .ref z7, v21, v22, v23, v24, v25, v26, v27])), (z5, zI E 100 fU)]) (As := [.int (nI (q + 1))]) (rest := [.ref y0]) C (c_Mo_byteAt l E y0 v0 v1 v2 v3 v4 v7 v8 v9 v10 v11 v12 v13 v14 v15 v16 (.int (nI t)) (.int bo) (.ref z6) (.ref z7) v21 v22 v23 v24 v25 v26 v27 z5 k (q + 1) fU hk (by omega)) ym_Mo_byteAt wd_ml_Mo_117 wd_im_Mo_byteAt wd_se_Mo_byteAt [0, 1] (by decide) rfl hA hK hst hP hD hS (ci := 7) (q0 := 0) rfl rfl rfl rfl hl.1 rfl (Nat.le_of_ble_eq_true rfl) ⟨Nat.le_of_ble_eq_true rfl, Nat.le_of_ble_eq_true rfl⟩ ⟨Nat.le_of_ble_eq_true rfl, Nat.le_of_ble_eq_true rfl⟩ d_Mo_parse_177) (fun r_16 u H locs hwb hP hD hS => ?_)
        have hP : va_P E.1 vwCl [(z6, zI E 8 fL), (z7, zI E 8 fN), (y0, .inr (7, [v0, v1, v2, v3, v4, .int (nI k), .ref z5, v7, v8, v9, v10, v11, v12, v13, v14, v15, v16, .int (nI t), .int bo, .ref z6, .ref z7, v21, v22, v23, v24, v25, v26, v27])), (z5, zI E 100 fU)] H := hP
        have hD : va_D A [(z6, zI E 8 fL), (z7, zI E 8 fN), (y0, .inr (7, [v0, v1, v2, v3, v4, .int (nI k), .ref z5, v7, v8, v9, v10, v11, v12, v13, v14, v15, v16, .int (nI t), .int bo, .ref z6, .ref z7, v21, v22, v23, v24, v25, v26, v27])), (z5, zI E 100 fU)] := hD
        subst hwb
        have hP := hP.sub (ws' := [(y0, .inr (7, [v0, v1, v2, v3, v4, .int (nI k), .ref z5, v7, v8, v9, v10, v11, v12, v13, v14, v15, v16, .int (nI t), .int bo, .ref z6, .ref z7, v21, v22, v23, v24, v25, v26, v27])), (z5, zI E 100 fU), (z6, zI E 8 fL), (z7, zI E 8 fN)]) [2, 3, 0, 1] rfl
        have hD := hD.sub (ws' := [(y0, .inr (7, [v0, v1, v2, v3, v4, .int (nI k), .ref z5, v7, v8, v9, v10, v11, v12, v13, v14, v15, v16, .int (nI t), .int bo, .ref z6, .ref z7, v21, v22, v23, v24, v25, v26, v27])), (z5, zI E 100 fU), (z6, zI E 8 fL), (z7, zI E 8 fN)]) [2, 3, 0, 1] (by decide) rfl
        refine zz_goi (wr := [(z5, zI E 100 fU), (z7, zI E 8 fN)]) [0, 2] [1, 3] rfl rfl (by decide) (by decide) hA hP hD hS (zz_runV (wc := [(y0, .inr (7, [v0, v1, v2, v3, v4, .int (nI k), .ref z5, v7, v8, v9, v10, v11, v12, v13, v14, v15, v16, .int (nI t), .int bo, .ref z6, .ref z7, v21, v22, v23, v24, v25, v26, v27])), (z6, zI E 8 fL)]) (As := [.int (rt_u fU k (q + 1))]) (rest := []) C (c_Mo_thingOf l E y0 v0 v1 v2 v3 v4 (.int (nI k)) (.ref z5) v7 v8 v9 v10 v11 v12 v13 v14 v15 v16 (.int (nI t)) (.int bo) (.ref z7) v21 v22 v23 v24 v25 v26 v27 z6 fL (rt_u fU k (q + 1))) ym_Mo_thingOf wd_ml_Mo_120 wd_im_Mo_thingOf wd_se_Mo_thingOf [0, 2] (by decide) rfl hA hK hst hP hD hS (ci := 7) (q0 := 0) rfl rfl rfl rfl hl.1 rfl (Nat.le_of_ble_eq_true rfl) ⟨Nat.le_of_ble_eq_true rfl, Nat.le_of_ble_eq_true rfl⟩ ⟨Nat.le_of_ble_eq_true rfl, Nat.le_of_ble_eq_true rfl⟩ d_Mo_parse_180) (fun r_17 u H locs hwt hP hD hS => ?_)
        have hP : va_P E.1 vwCl [(z5, zI E 100 fU), (z7, zI E 8 fN), (y0, .inr (7, [v0, v1, v2, v3, v4, .int (nI k), .ref z5, v7, v8, v9, v10, v11, v12, v13, v14, v15, v16, .int (nI t), .int bo, .ref z6, .ref z7, v21, v22, v23, v24, v25, v26, v27])), (z6, zI E 8 fL)] H := hP
        have hD : va_D A [(z5, zI E 100 fU), (z7, zI E 8 fN), (y0, .inr (7, [v0, v1, v2, v3, v4, .int (nI k), .ref z5, v7, v8, v9, v10, v11, v12, v13, v14, v15, v16, .int (nI t), .int bo, .ref z6, .ref z7, v21, v22, v23, v24, v25, v26, v27])), (z6, zI E 8 fL)] := hD
        subst hwt
        have hP := hP.sub (ws' := [(y0, .inr (7, [v0, v1, v2, v3, v4, .int (nI k), .ref z5, v7, v8, v9, v10, v11, v12, v13, v14, v15, v16, .int (nI t), .int bo, .ref z6, .ref z7, v21, v22, v23, v24, v25, v26, v27])), (z5, zI E 100 fU), (z6, zI E 8 fL), (z7, zI E 8 fN)]) [2, 0, 3, 1] rfl
        have hD := hD.sub (ws' := [(y0, .inr (7, [v0, v1, v2, v3, v4, .int (nI k), .ref z5, v7, v8, v9, v10, v11, v12, v13, v14, v15, v16, .int (nI t), .int bo, .ref z6, .ref z7, v21, v22, v23, v24, v25, v26, v27])), (z5, zI E 100 fU), (z6, zI E 8 fL), (z7, zI E 8 fN)]) [2, 0, 3, 1] (by decide) rfl
        refine lv_istore_n (lv' := [(2, .int (rv_thing fL (rt_u fU k (q + 1)))), (1, .int (nI (q + 1))), (0, .ref y0)]) hx hb d_Mo_parse_183 rfl hl (by decide) rfl (fun ls hl => ?_)
        refine lv_iload_n hx hb d_Mo_parse_184 rfl (lv_at hl 0 rfl) ?_
        refine lv_if_ge (tgt := 190) hx hb d_Mo_parse_185 (by decide) (fun c_18 => ?_) (fun c_18 => ?_)
        · have hx1 : ¬ rv_thing fL (rt_u fU k (q + 1)) < 0 := fun z => absurd c_18 (zz_nle z)
          have hm1 : ¬ rv_thing fL (rt_u fU k (q + 1)) = -1 := fun z => hx1 (by rw [z]; decide)
          refine lv_aload_n hx hb d_Mo_parse_190 rfl (lv_at hl 2 rfl) ?_
          refine lv_aload_n hx hb d_Mo_parse_191 rfl (lv_at hl 2 rfl) ?_
          refine lv_iload_n hx hb d_Mo_parse_192 rfl (lv_at hl 1 rfl) ?_
          refine lv_iconst (v := 1) hx hb d_Mo_parse_193 (by decide) ?_
          refine lv_iadd hx hb d_Mo_parse_194 ?_
          refine zz_eqi (y := nI (q + 2)) (nI_1 _) ?_
          refine zz_goi (wr := [(z6, zI E 8 fL), (z7, zI E 8 fN)]) [0, 1] [2, 3] rfl rfl (by decide) (by decide) hA hP hD hS (zz_runV (wc := [(y0, .inr (7, [v0, v1, v2, v3, v4, .int (nI k), .ref z5, v7, v8, v9, v10, v11, v12, v13, v14, v15, v16, .int (nI t), .int bo, .ref z6, .ref z7, v21, v22, v23, v24, v25, v26, v27])), (z5, zI E 100 fU)]) (As := [.int (nI (q + 2))]) (rest := [.ref y0]) C (c_Mo_byteAt l E y0 v0 v1 v2 v3 v4 v7 v8 v9 v10 v11 v12 v13 v14 v15 v16 (.int (nI t)) (.int bo) (.ref z6) (.ref z7) v21 v22 v23 v24 v25 v26 v27 z5 k (q + 2) fU hk (by omega)) ym_Mo_byteAt wd_ml_Mo_117 wd_im_Mo_byteAt wd_se_Mo_byteAt [0, 1] (by decide) rfl hA hK hst hP hD hS (ci := 7) (q0 := 0) rfl rfl rfl rfl hl.1 rfl (Nat.le_of_ble_eq_true rfl) ⟨Nat.le_of_ble_eq_true rfl, Nat.le_of_ble_eq_true rfl⟩ ⟨Nat.le_of_ble_eq_true rfl, Nat.le_of_ble_eq_true rfl⟩ d_Mo_parse_195) (fun r_19 u H locs hwb hP hD hS => ?_)
          have hP : va_P E.1 vwCl [(z6, zI E 8 fL), (z7, zI E 8 fN), (y0, .inr (7, [v0, v1, v2, v3, v4, .int (nI k), .ref z5, v7, v8, v9, v10, v11, v12, v13, v14, v15, v16, .int (nI t), .int bo, .ref z6, .ref z7, v21, v22, v23, v24, v25, v26, v27])), (z5, zI E 100 fU)] H := hP
          have hD : va_D A [(z6, zI E 8 fL), (z7, zI E 8 fN), (y0, .inr (7, [v0, v1, v2, v3, v4, .int (nI k), .ref z5, v7, v8, v9, v10, v11, v12, v13, v14, v15, v16, .int (nI t), .int bo, .ref z6, .ref z7, v21, v22, v23, v24, v25, v26, v27])), (z5, zI E 100 fU)] := hD
          subst hwb
          have hP := hP.sub (ws' := [(y0, .inr (7, [v0, v1, v2, v3, v4, .int (nI k), .ref z5, v7, v8, v9, v10, v11, v12, v13, v14, v15, v16, .int (nI t), .int bo, .ref z6, .ref z7, v21, v22, v23, v24, v25, v26, v27])), (z5, zI E 100 fU), (z6, zI E 8 fL), (z7, zI E 8 fN)]) [2, 3, 0, 1] rfl
          have hD := hD.sub (ws' := [(y0, .inr (7, [v0, v1, v2, v3, v4, .int (nI k), .ref z5, v7, v8, v9, v10, v11, v12, v13, v14, v15, v16, .int (nI t), .int bo, .ref z6, .ref z7, v21, v22, v23, v24, v25, v26, v27])), (z5, zI E 100 fU), (z6, zI E 8 fL), (z7, zI E 8 fN)]) [2, 3, 0, 1] (by decide) rfl
          refine zz_goi (wr := [(z5, zI E 100 fU), (z7, zI E 8 fN)]) [0, 2] [1, 3] rfl rfl (by decide) (by decide) hA hP hD hS (zz_runV (wc := [(y0, .inr (7, [v0, v1, v2, v3, v4, .int (nI k), .ref z5, v7, v8, v9, v10, v11, v12, v13, v14, v15, v16, .int (nI t), .int bo, .ref z6, .ref z7, v21, v22, v23, v24, v25, v26, v27])), (z6, zI E 8 fL)]) (As := [.int (rt_u fU k (q + 2))]) (rest := []) C (c_Mo_thingOf l E y0 v0 v1 v2 v3 v4 (.int (nI k)) (.ref z5) v7 v8 v9 v10 v11 v12 v13 v14 v15 v16 (.int (nI t)) (.int bo) (.ref z7) v21 v22 v23 v24 v25 v26 v27 z6 fL (rt_u fU k (q + 2))) ym_Mo_thingOf wd_ml_Mo_120 wd_im_Mo_thingOf wd_se_Mo_thingOf [0, 2] (by decide) rfl hA hK hst hP hD hS (ci := 7) (q0 := 0) rfl rfl rfl rfl hl.1 rfl (Nat.le_of_ble_eq_true rfl) ⟨Nat.le_of_ble_eq_true rfl, Nat.le_of_ble_eq_true rfl⟩ ⟨Nat.le_of_ble_eq_true rfl, Nat.le_of_ble_eq_true rfl⟩ d_Mo_parse_198) (fun r_20 u H locs hwt hP hD hS => ?_)
          have hP : va_P E.1 vwCl [(z5, zI E 100 fU), (z7, zI E 8 fN), (y0, .inr (7, [v0, v1, v2, v3, v4, .int (nI k), .ref z5, v7, v8, v9, v10, v11, v12, v13, v14, v15, v16, .int (nI t), .int bo, .ref z6, .ref z7, v21, v22, v23, v24, v25, v26, v27])), (z6, zI E 8 fL)] H := hP
          have hD : va_D A [(z5, zI E 100 fU), (z7, zI E 8 fN), (y0, .inr (7, [v0, v1, v2, v3, v4, .int (nI k), .ref z5, v7, v8, v9, v10, v11, v12, v13, v14, v15, v16, .int (nI t), .int bo, .ref z6, .ref z7, v21, v22, v23, v24, v25, v26, v27])), (z6, zI E 8 fL)] := hD
          subst hwt
          have hP := hP.sub (ws' := [(y0, .inr (7, [v0, v1, v2, v3, v4, .int (nI k), .ref z5, v7, v8, v9, v10, v11, v12, v13, v14, v15, v16, .int (nI t), .int bo, .ref z6, .ref z7, v21, v22, v23, v24, v25, v26, v27])), (z5, zI E 100 fU), (z6, zI E 8 fL), (z7, zI E 8 fN)]) [2, 0, 3, 1] rfl
          have hD := hD.sub (ws' := [(y0, .inr (7, [v0, v1, v2, v3, v4, .int (nI k), .ref z5, v7, v8, v9, v10, v11, v12, v13, v14, v15, v16, .int (nI t), .int bo, .ref z6, .ref z7, v21, v22, v23, v24, v25, v26, v27])), (z5, zI E 100 fU), (z6, zI E 8 fL), (z7, zI E 8 fN)]) [2, 0, 3, 1] (by decide) rfl
          refine lv_istore_n (lv' := [(3, .int (rv_thing fL (rt_u fU k (q + 2)))), (2, .int (rv_thing fL (rt_u fU k (q + 1)))), (1, .int (nI (q + 1))), (0, .ref y0)]) hx hb d_Mo_parse_201 rfl hl (by decide) rfl (fun ls hl => ?_)
          refine lv_iload_n hx hb d_Mo_parse_202 rfl (lv_at hl 0 rfl) ?_
          refine lv_if_lt (tgt := 211) hx hb d_Mo_parse_203 (by decide) (fun c_21 => ?_) (fun c_21 => ?_)
          · have hnk : ¬ rv_kok t (rv_thing fL (rt_u fU k (q + 1))) (rv_thing fL (rt_u fU k (q + 2))) := fun z => absurd ((rt_kok_iff hok (by omega) hx1).mp z) (fun y => y.1 c_21)
            refine lv_iload_n hx hb d_Mo_parse_211 rfl (lv_at hl 2 rfl) ?_
            refine lv_iconst (v := 1) hx hb d_Mo_parse_212 (by decide) ?_
            refine lv_iadd hx hb d_Mo_parse_213 ?_
            refine zz_eqi (y := nI (q + 2)) (nI_1 _) ?_
            have hrf : (rt_pairs (rt_u fU k) k fL t 100 (rt_things (rt_u fU k) 100 0 (fL0, 0)).1 (fN0, 0)) = (nI (q + 2), fN, 0) := by rw [← hgo]; exact by rw [rt_pairs, if_pos h32, if_neg hnd, if_neg hm1, if_neg hnk]
            exact zz_reti C (rfl) hS (fL, fN, t, bo) (⟨fL0, fN0, hL0, hN0, ht.symm, fun z => absurd z hp0, fun _ => by
              show _ = (rt_pairs (rt_u fU k) k (rt_things (rt_u fU k) 100 0 (fL0, 0)).2.1 t 100 (rt_things (rt_u fU k) 100 0 (fL0, 0)).1 (fN0, 0)).1 ∧ fN = (rt_pairs (rt_u fU k) k (rt_things (rt_u fU k) 100 0 (fL0, 0)).2.1 t 100 (rt_things (rt_u fU k) 100 0 (fL0, 0)).1 (fN0, 0)).2.1 ∧ (_ = -1 → bo = _)
              rw [hT, hrf]
              exact ⟨rfl, rfl, fun z => absurd z (zz_nm1 (by omega))⟩⟩) hP hD d_Mo_parse_214
          · refine lv_iload_n hx hb d_Mo_parse_206 rfl (lv_at hl 1 rfl) ?_
            refine lv_iload_n hx hb d_Mo_parse_207 rfl (lv_at hl 0 rfl) ?_
            refine lv_icmp_ne (tgt := 215) hx hb d_Mo_parse_208 (by decide) (fun c_22 => ?_) (fun c_22 => ?_)
            · have hkk : rv_kok t (rv_thing fL (rt_u fU k (q + 1))) (rv_thing fL (rt_u fU k (q + 2))) := (rt_kok_iff hok (by omega) hx1).mpr ⟨c_21, c_22⟩
              have hv1 := rt_vp8 hok ht8 hx1
              have hv2 := rt_vp8 hok ht8 c_21
              refine lv_aload_n hx hb d_Mo_parse_215 rfl (lv_at hl 3 rfl) ?_
              refine zz_get C hK hP fl_Mo_50 0 rfl rfl d_Mo_parse_216 ?_
              refine lv_iload_n hx hb d_Mo_parse_219 rfl (lv_at hl 1 rfl) ?_
              refine lv_aload_n hx hb d_Mo_parse_220 rfl (lv_at hl 3 rfl) ?_
              refine zz_get C hK hP fl_Mo_50 0 rfl rfl d_Mo_parse_221 ?_
              refine lv_iload_n hx hb d_Mo_parse_224 rfl (lv_at hl 1 rfl) ?_
              refine zz_iald C hK hP 3 rfl (hv1) d_Mo_parse_225 ?_
              refine lv_iconst (v := 1) hx hb d_Mo_parse_226 (by decide) ?_
              refine lv_iload_n hx hb d_Mo_parse_227 rfl (lv_at hl 0 rfl) ?_
              refine lv_ishl hx hb d_Mo_parse_228 ?_
              refine lv_ior hx hb d_Mo_parse_229 ?_
              refine zz_iast C hK hP hD hS 3 rfl (hv1) d_Mo_parse_230 (fun H locs hP hD hS => ?_)
              have hP : va_P E.1 vwCl [(y0, .inr (7, [v0, v1, v2, v3, v4, .int (nI k), .ref z5, v7, v8, v9, v10, v11, v12, v13, v14, v15, v16, .int (nI t), .int bo, .ref z6, .ref z7, v21, v22, v23, v24, v25, v26, v27])), (z5, zI E 100 fU), (z6, zI E 8 fL), (z7, zI E 8 (upd fN (rv_thing fL (rt_u fU k (q + 1))).toNatClampNeg ((fN (rv_thing fL (rt_u fU k (q + 1))).toNatClampNeg) ||| (1 <<< ((rv_thing fL (rt_u fU k (q + 2))) &&& 31)))))] H := hP
              have hD : va_D A [(y0, .inr (7, [v0, v1, v2, v3, v4, .int (nI k), .ref z5, v7, v8, v9, v10, v11, v12, v13, v14, v15, v16, .int (nI t), .int bo, .ref z6, .ref z7, v21, v22, v23, v24, v25, v26, v27])), (z5, zI E 100 fU), (z6, zI E 8 fL), (z7, zI E 8 (upd fN (rv_thing fL (rt_u fU k (q + 1))).toNatClampNeg ((fN (rv_thing fL (rt_u fU k (q + 1))).toNatClampNeg) ||| (1 <<< ((rv_thing fL (rt_u fU k (q + 2))) &&& 31)))))] := hD
              refine lv_aload_n hx hb d_Mo_parse_231 rfl (lv_at hl 3 rfl) ?_
              refine zz_get C hK hP fl_Mo_50 0 rfl rfl d_Mo_parse_232 ?_
              refine lv_iload_n hx hb d_Mo_parse_235 rfl (lv_at hl 0 rfl) ?_
              refine lv_aload_n hx hb d_Mo_parse_236 rfl (lv_at hl 3 rfl) ?_
              refine zz_get C hK hP fl_Mo_50 0 rfl rfl d_Mo_parse_237 ?_
              refine lv_iload_n hx hb d_Mo_parse_240 rfl (lv_at hl 0 rfl) ?_
              refine zz_iald C hK hP 3 rfl (hv2) d_Mo_parse_241 ?_
              refine lv_iconst (v := 1) hx hb d_Mo_parse_242 (by decide) ?_
              refine lv_iload_n hx hb d_Mo_parse_243 rfl (lv_at hl 1 rfl) ?_
              refine lv_ishl hx hb d_Mo_parse_244 ?_
              refine lv_ior hx hb d_Mo_parse_245 ?_
              refine zz_iast C hK hP hD hS 3 rfl (hv2) d_Mo_parse_246 (fun H locs hP hD hS => ?_)
              have hP : va_P E.1 vwCl [(y0, .inr (7, [v0, v1, v2, v3, v4, .int (nI k), .ref z5, v7, v8, v9, v10, v11, v12, v13, v14, v15, v16, .int (nI t), .int bo, .ref z6, .ref z7, v21, v22, v23, v24, v25, v26, v27])), (z5, zI E 100 fU), (z6, zI E 8 fL), (z7, zI E 8 (upd (upd fN (rv_thing fL (rt_u fU k (q + 1))).toNatClampNeg ((fN (rv_thing fL (rt_u fU k (q + 1))).toNatClampNeg) ||| (1 <<< ((rv_thing fL (rt_u fU k (q + 2))) &&& 31)))) (rv_thing fL (rt_u fU k (q + 2))).toNatClampNeg (((upd fN (rv_thing fL (rt_u fU k (q + 1))).toNatClampNeg ((fN (rv_thing fL (rt_u fU k (q + 1))).toNatClampNeg) ||| (1 <<< ((rv_thing fL (rt_u fU k (q + 2))) &&& 31)))) (rv_thing fL (rt_u fU k (q + 2))).toNatClampNeg) ||| (1 <<< ((rv_thing fL (rt_u fU k (q + 1))) &&& 31)))))] H := hP
              have hD : va_D A [(y0, .inr (7, [v0, v1, v2, v3, v4, .int (nI k), .ref z5, v7, v8, v9, v10, v11, v12, v13, v14, v15, v16, .int (nI t), .int bo, .ref z6, .ref z7, v21, v22, v23, v24, v25, v26, v27])), (z5, zI E 100 fU), (z6, zI E 8 fL), (z7, zI E 8 (upd (upd fN (rv_thing fL (rt_u fU k (q + 1))).toNatClampNeg ((fN (rv_thing fL (rt_u fU k (q + 1))).toNatClampNeg) ||| (1 <<< ((rv_thing fL (rt_u fU k (q + 2))) &&& 31)))) (rv_thing fL (rt_u fU k (q + 2))).toNatClampNeg (((upd fN (rv_thing fL (rt_u fU k (q + 1))).toNatClampNeg ((fN (rv_thing fL (rt_u fU k (q + 1))).toNatClampNeg) ||| (1 <<< ((rv_thing fL (rt_u fU k (q + 2))) &&& 31)))) (rv_thing fL (rt_u fU k (q + 2))).toNatClampNeg) ||| (1 <<< ((rv_thing fL (rt_u fU k (q + 1))) &&& 31)))))] := hD
              refine lv_iinc (v := nI (q + 3)) (lv' := [(1, .int (nI (q + 3))), (3, .int (rv_thing fL (rt_u fU k (q + 2)))), (2, .int (rv_thing fL (rt_u fU k (q + 1)))), (0, .ref y0)]) hx hb d_Mo_parse_247 hl (k := 2) rfl (nI_add _ 2) (by decide) rfl (fun ls hl => ?_)
              refine lv_goto (tgt := 109) hx hb d_Mo_parse_250 (by decide) ?_
              exact ih (q + 3) (rv_keep fN (rv_thing fL (rt_u fU k (q + 1))) (rv_thing fL (rt_u fU k (q + 2)))) bo (by omega) (by omega) (by rw [← hgo, rt_pairs, if_pos h32, if_neg hnd, if_neg hm1, if_pos hkk]) _ _ ls hP hD hS (lv_sub hl [3, 0] rfl)
            · have hnk : ¬ rv_kok t (rv_thing fL (rt_u fU k (q + 1))) (rv_thing fL (rt_u fU k (q + 2))) := fun z => absurd ((rt_kok_iff hok (by omega) hx1).mp z) (fun y => y.2 c_22)
              refine lv_iload_n hx hb d_Mo_parse_211 rfl (lv_at hl 2 rfl) ?_
              refine lv_iconst (v := 1) hx hb d_Mo_parse_212 (by decide) ?_
              refine lv_iadd hx hb d_Mo_parse_213 ?_
              refine zz_eqi (y := nI (q + 2)) (nI_1 _) ?_
              have hrf : (rt_pairs (rt_u fU k) k fL t 100 (rt_things (rt_u fU k) 100 0 (fL0, 0)).1 (fN0, 0)) = (nI (q + 2), fN, 0) := by rw [← hgo]; exact by rw [rt_pairs, if_pos h32, if_neg hnd, if_neg hm1, if_neg hnk]
              exact zz_reti C (rfl) hS (fL, fN, t, bo) (⟨fL0, fN0, hL0, hN0, ht.symm, fun z => absurd z hp0, fun _ => by
                show _ = (rt_pairs (rt_u fU k) k (rt_things (rt_u fU k) 100 0 (fL0, 0)).2.1 t 100 (rt_things (rt_u fU k) 100 0 (fL0, 0)).1 (fN0, 0)).1 ∧ fN = (rt_pairs (rt_u fU k) k (rt_things (rt_u fU k) 100 0 (fL0, 0)).2.1 t 100 (rt_things (rt_u fU k) 100 0 (fL0, 0)).1 (fN0, 0)).2.1 ∧ (_ = -1 → bo = _)
                rw [hT, hrf]
                exact ⟨rfl, rfl, fun z => absurd z (zz_nm1 (by omega))⟩⟩) hP hD d_Mo_parse_214
        · have hm1 : rv_thing fL (rt_u fU k (q + 1)) = -1 := rt_ok_neg hok (by omega) (zz_lt0 c_18)
          refine lv_iload_n hx hb d_Mo_parse_188 rfl (lv_at hl 1 rfl) ?_
          have hrf : (rt_pairs (rt_u fU k) k fL t 100 (rt_things (rt_u fU k) 100 0 (fL0, 0)).1 (fN0, 0)) = (nI (q + 1), fN, 0) := by rw [← hgo]; exact by rw [rt_pairs, if_pos h32, if_neg hnd, if_pos hm1]
          exact zz_reti C (rfl) hS (fL, fN, t, bo) (⟨fL0, fN0, hL0, hN0, ht.symm, fun z => absurd z hp0, fun _ => by
            show _ = (rt_pairs (rt_u fU k) k (rt_things (rt_u fU k) 100 0 (fL0, 0)).2.1 t 100 (rt_things (rt_u fU k) 100 0 (fL0, 0)).1 (fN0, 0)).1 ∧ fN = (rt_pairs (rt_u fU k) k (rt_things (rt_u fU k) 100 0 (fL0, 0)).2.1 t 100 (rt_things (rt_u fU k) 100 0 (fL0, 0)).1 (fN0, 0)).2.1 ∧ (_ = -1 → bo = _)
            rw [hT, hrf]
            exact ⟨rfl, rfl, fun z => absurd z (zz_nm1 (by omega))⟩⟩) hP hD d_Mo_parse_189
      · refine lv_aload_n hx hb d_Mo_parse_134 rfl (lv_at hl 1 rfl) ?_
        refine lv_iload_n hx hb d_Mo_parse_135 rfl (lv_at hl 0 rfl) ?_
        refine zz_goi (wr := [(z6, zI E 8 fL), (z7, zI E 8 fN)]) [0, 1] [2, 3] rfl rfl (by decide) (by decide) hA hP hD hS (zz_runV (wc := [(y0, .inr (7, [v0, v1, v2, v3, v4, .int (nI k), .ref z5, v7, v8, v9, v10, v11, v12, v13, v14, v15, v16, .int (nI t), .int bo, .ref z6, .ref z7, v21, v22, v23, v24, v25, v26, v27])), (z5, zI E 100 fU)]) (As := [.int (nI (q + 1))]) (rest := []) C (c_Mo_byteAt l E y0 v0 v1 v2 v3 v4 v7 v8 v9 v10 v11 v12 v13 v14 v15 v16 (.int (nI t)) (.int bo) (.ref z6) (.ref z7) v21 v22 v23 v24 v25 v26 v27 z5 k (q + 1) fU hk (by omega)) ym_Mo_byteAt wd_ml_Mo_117 wd_im_Mo_byteAt wd_se_Mo_byteAt [0, 1] (by decide) rfl hA hK hst hP hD hS (ci := 7) (q0 := 0) rfl rfl rfl rfl hl.1 rfl (Nat.le_of_ble_eq_true rfl) ⟨Nat.le_of_ble_eq_true rfl, Nat.le_of_ble_eq_true rfl⟩ ⟨Nat.le_of_ble_eq_true rfl, Nat.le_of_ble_eq_true rfl⟩ d_Mo_parse_136) (fun r_23 u H locs hwb hP hD hS => ?_)
        have hP : va_P E.1 vwCl [(z6, zI E 8 fL), (z7, zI E 8 fN), (y0, .inr (7, [v0, v1, v2, v3, v4, .int (nI k), .ref z5, v7, v8, v9, v10, v11, v12, v13, v14, v15, v16, .int (nI t), .int bo, .ref z6, .ref z7, v21, v22, v23, v24, v25, v26, v27])), (z5, zI E 100 fU)] H := hP
        have hD : va_D A [(z6, zI E 8 fL), (z7, zI E 8 fN), (y0, .inr (7, [v0, v1, v2, v3, v4, .int (nI k), .ref z5, v7, v8, v9, v10, v11, v12, v13, v14, v15, v16, .int (nI t), .int bo, .ref z6, .ref z7, v21, v22, v23, v24, v25, v26, v27])), (z5, zI E 100 fU)] := hD
        subst hwb
        have hP := hP.sub (ws' := [(y0, .inr (7, [v0, v1, v2, v3, v4, .int (nI k), .ref z5, v7, v8, v9, v10, v11, v12, v13, v14, v15, v16, .int (nI t), .int bo, .ref z6, .ref z7, v21, v22, v23, v24, v25, v26, v27])), (z5, zI E 100 fU), (z6, zI E 8 fL), (z7, zI E 8 fN)]) [2, 3, 0, 1] rfl
        have hD := hD.sub (ws' := [(y0, .inr (7, [v0, v1, v2, v3, v4, .int (nI k), .ref z5, v7, v8, v9, v10, v11, v12, v13, v14, v15, v16, .int (nI t), .int bo, .ref z6, .ref z7, v21, v22, v23, v24, v25, v26, v27])), (z5, zI E 100 fU), (z6, zI E 8 fL), (z7, zI E 8 fN)]) [2, 3, 0, 1] (by decide) rfl
        refine lv_bipush (v := 51) hx hb d_Mo_parse_139 (by decide) ?_
        refine lv_icmp_gt (tgt := 174) hx hb d_Mo_parse_141 (by decide) (fun c_24 => ?_) (fun c_24 => ?_)
        · have hnd : ¬ (¬ (rt_u fU k (q + 1)) < 49 ∧ (rt_u fU k (q + 1)) ≤ 51) := fun z => absurd c_24 (fun y => zz_nle y z.2)
          refine lv_aload_n hx hb d_Mo_parse_174 rfl (lv_at hl 1 rfl) ?_
          refine lv_aload_n hx hb d_Mo_parse_175 rfl (lv_at hl 1 rfl) ?_
          refine lv_iload_n hx hb d_Mo_parse_176 rfl (lv_at hl 0 rfl) ?_
          refine zz_goi (wr := [(z6, zI E 8 fL), (z7, zI E 8 fN)]) [0, 1] [2, 3] rfl rfl (by decide) (by decide) hA hP hD hS (zz_runV (wc := [(y0, .inr (7, [v0, v1, v2, v3, v4, .int (nI k), .ref z5, v7, v8, v9, v10, v11, v12, v13, v14, v15, v16, .int (nI t), .int bo, .ref z6, .ref z7, v21, v22, v23, v24, v25, v26, v27])), (z5, zI E 100 fU)]) (As := [.int (nI (q + 1))]) (rest := [.ref y0]) C (c_Mo_byteAt l E y0 v0 v1 v2 v3 v4 v7 v8 v9 v10 v11 v12 v13 v14 v15 v16 (.int (nI t)) (.int bo) (.ref z6) (.ref z7) v21 v22 v23 v24 v25 v26 v27 z5 k (q + 1) fU hk (by omega)) ym_Mo_byteAt wd_ml_Mo_117 wd_im_Mo_byteAt wd_se_Mo_byteAt [0, 1] (by decide) rfl hA hK hst hP hD hS (ci := 7) (q0 := 0) rfl rfl rfl rfl hl.1 rfl (Nat.le_of_ble_eq_true rfl) ⟨Nat.le_of_ble_eq_true rfl, Nat.le_of_ble_eq_true rfl⟩ ⟨Nat.le_of_ble_eq_true rfl, Nat.le_of_ble_eq_true rfl⟩ d_Mo_parse_177) (fun r_25 u H locs hwb hP hD hS => ?_)
          have hP : va_P E.1 vwCl [(z6, zI E 8 fL), (z7, zI E 8 fN), (y0, .inr (7, [v0, v1, v2, v3, v4, .int (nI k), .ref z5, v7, v8, v9, v10, v11, v12, v13, v14, v15, v16, .int (nI t), .int bo, .ref z6, .ref z7, v21, v22, v23, v24, v25, v26, v27])), (z5, zI E 100 fU)] H := hP
          have hD : va_D A [(z6, zI E 8 fL), (z7, zI E 8 fN), (y0, .inr (7, [v0, v1, v2, v3, v4, .int (nI k), .ref z5, v7, v8, v9, v10, v11, v12, v13, v14, v15, v16, .int (nI t), .int bo, .ref z6, .ref z7, v21, v22, v23, v24, v25, v26, v27])), (z5, zI E 100 fU)] := hD
          subst hwb
          have hP := hP.sub (ws' := [(y0, .inr (7, [v0, v1, v2, v3, v4, .int (nI k), .ref z5, v7, v8, v9, v10, v11, v12, v13, v14, v15, v16, .int (nI t), .int bo, .ref z6, .ref z7, v21, v22, v23, v24, v25, v26, v27])), (z5, zI E 100 fU), (z6, zI E 8 fL), (z7, zI E 8 fN)]) [2, 3, 0, 1] rfl
          have hD := hD.sub (ws' := [(y0, .inr (7, [v0, v1, v2, v3, v4, .int (nI k), .ref z5, v7, v8, v9, v10, v11, v12, v13, v14, v15, v16, .int (nI t), .int bo, .ref z6, .ref z7, v21, v22, v23, v24, v25, v26, v27])), (z5, zI E 100 fU), (z6, zI E 8 fL), (z7, zI E 8 fN)]) [2, 3, 0, 1] (by decide) rfl
          refine zz_goi (wr := [(z5, zI E 100 fU), (z7, zI E 8 fN)]) [0, 2] [1, 3] rfl rfl (by decide) (by decide) hA hP hD hS (zz_runV (wc := [(y0, .inr (7, [v0, v1, v2, v3, v4, .int (nI k), .ref z5, v7, v8, v9, v10, v11, v12, v13, v14, v15, v16, .int (nI t), .int bo, .ref z6, .ref z7, v21, v22, v23, v24, v25, v26, v27])), (z6, zI E 8 fL)]) (As := [.int (rt_u fU k (q + 1))]) (rest := []) C (c_Mo_thingOf l E y0 v0 v1 v2 v3 v4 (.int (nI k)) (.ref z5) v7 v8 v9 v10 v11 v12 v13 v14 v15 v16 (.int (nI t)) (.int bo) (.ref z7) v21 v22 v23 v24 v25 v26 v27 z6 fL (rt_u fU k (q + 1))) ym_Mo_thingOf wd_ml_Mo_120 wd_im_Mo_thingOf wd_se_Mo_thingOf [0, 2] (by decide) rfl hA hK hst hP hD hS (ci := 7) (q0 := 0) rfl rfl rfl rfl hl.1 rfl (Nat.le_of_ble_eq_true rfl) ⟨Nat.le_of_ble_eq_true rfl, Nat.le_of_ble_eq_true rfl⟩ ⟨Nat.le_of_ble_eq_true rfl, Nat.le_of_ble_eq_true rfl⟩ d_Mo_parse_180) (fun r_26 u H locs hwt hP hD hS => ?_)
          have hP : va_P E.1 vwCl [(z5, zI E 100 fU), (z7, zI E 8 fN), (y0, .inr (7, [v0, v1, v2, v3, v4, .int (nI k), .ref z5, v7, v8, v9, v10, v11, v12, v13, v14, v15, v16, .int (nI t), .int bo, .ref z6, .ref z7, v21, v22, v23, v24, v25, v26, v27])), (z6, zI E 8 fL)] H := hP
          have hD : va_D A [(z5, zI E 100 fU), (z7, zI E 8 fN), (y0, .inr (7, [v0, v1, v2, v3, v4, .int (nI k), .ref z5, v7, v8, v9, v10, v11, v12, v13, v14, v15, v16, .int (nI t), .int bo, .ref z6, .ref z7, v21, v22, v23, v24, v25, v26, v27])), (z6, zI E 8 fL)] := hD
          subst hwt
          have hP := hP.sub (ws' := [(y0, .inr (7, [v0, v1, v2, v3, v4, .int (nI k), .ref z5, v7, v8, v9, v10, v11, v12, v13, v14, v15, v16, .int (nI t), .int bo, .ref z6, .ref z7, v21, v22, v23, v24, v25, v26, v27])), (z5, zI E 100 fU), (z6, zI E 8 fL), (z7, zI E 8 fN)]) [2, 0, 3, 1] rfl
          have hD := hD.sub (ws' := [(y0, .inr (7, [v0, v1, v2, v3, v4, .int (nI k), .ref z5, v7, v8, v9, v10, v11, v12, v13, v14, v15, v16, .int (nI t), .int bo, .ref z6, .ref z7, v21, v22, v23, v24, v25, v26, v27])), (z5, zI E 100 fU), (z6, zI E 8 fL), (z7, zI E 8 fN)]) [2, 0, 3, 1] (by decide) rfl
          refine lv_istore_n (lv' := [(2, .int (rv_thing fL (rt_u fU k (q + 1)))), (1, .int (nI (q + 1))), (0, .ref y0)]) hx hb d_Mo_parse_183 rfl hl (by decide) rfl (fun ls hl => ?_)
          refine lv_iload_n hx hb d_Mo_parse_184 rfl (lv_at hl 0 rfl) ?_
          refine lv_if_ge (tgt := 190) hx hb d_Mo_parse_185 (by decide) (fun c_27 => ?_) (fun c_27 => ?_)
          · have hx1 : ¬ rv_thing fL (rt_u fU k (q + 1)) < 0 := fun z => absurd c_27 (zz_nle z)
            have hm1 : ¬ rv_thing fL (rt_u fU k (q + 1)) = -1 := fun z => hx1 (by rw [z]; decide)
            refine lv_aload_n hx hb d_Mo_parse_190 rfl (lv_at hl 2 rfl) ?_
            refine lv_aload_n hx hb d_Mo_parse_191 rfl (lv_at hl 2 rfl) ?_
            refine lv_iload_n hx hb d_Mo_parse_192 rfl (lv_at hl 1 rfl) ?_
            refine lv_iconst (v := 1) hx hb d_Mo_parse_193 (by decide) ?_
            refine lv_iadd hx hb d_Mo_parse_194 ?_
            refine zz_eqi (y := nI (q + 2)) (nI_1 _) ?_
            refine zz_goi (wr := [(z6, zI E 8 fL), (z7, zI E 8 fN)]) [0, 1] [2, 3] rfl rfl (by decide) (by decide) hA hP hD hS (zz_runV (wc := [(y0, .inr (7, [v0, v1, v2, v3, v4, .int (nI k), .ref z5, v7, v8, v9, v10, v11, v12, v13, v14, v15, v16, .int (nI t), .int bo, .ref z6, .ref z7, v21, v22, v23, v24, v25, v26, v27])), (z5, zI E 100 fU)]) (As := [.int (nI (q + 2))]) (rest := [.ref y0]) C (c_Mo_byteAt l E y0 v0 v1 v2 v3 v4 v7 v8 v9 v10 v11 v12 v13 v14 v15 v16 (.int (nI t)) (.int bo) (.ref z6) (.ref z7) v21 v22 v23 v24 v25 v26 v27 z5 k (q + 2) fU hk (by omega)) ym_Mo_byteAt wd_ml_Mo_117 wd_im_Mo_byteAt wd_se_Mo_byteAt [0, 1] (by decide) rfl hA hK hst hP hD hS (ci := 7) (q0 := 0) rfl rfl rfl rfl hl.1 rfl (Nat.le_of_ble_eq_true rfl) ⟨Nat.le_of_ble_eq_true rfl, Nat.le_of_ble_eq_true rfl⟩ ⟨Nat.le_of_ble_eq_true rfl, Nat.le_of_ble_eq_true rfl⟩ d_Mo_parse_195) (fun r_28 u H locs hwb hP hD hS => ?_)
            have hP : va_P E.1 vwCl [(z6, zI E 8 fL), (z7, zI E 8 fN), (y0, .inr (7, [v0, v1, v2, v3, v4, .int (nI k), .ref z5, v7, v8, v9, v10, v11, v12, v13, v14, v15, v16, .int (nI t), .int bo, .ref z6, .ref z7, v21, v22, v23, v24, v25, v26, v27])), (z5, zI E 100 fU)] H := hP
            have hD : va_D A [(z6, zI E 8 fL), (z7, zI E 8 fN), (y0, .inr (7, [v0, v1, v2, v3, v4, .int (nI k), .ref z5, v7, v8, v9, v10, v11, v12, v13, v14, v15, v16, .int (nI t), .int bo, .ref z6, .ref z7, v21, v22, v23, v24, v25, v26, v27])), (z5, zI E 100 fU)] := hD
            subst hwb
            have hP := hP.sub (ws' := [(y0, .inr (7, [v0, v1, v2, v3, v4, .int (nI k), .ref z5, v7, v8, v9, v10, v11, v12, v13, v14, v15, v16, .int (nI t), .int bo, .ref z6, .ref z7, v21, v22, v23, v24, v25, v26, v27])), (z5, zI E 100 fU), (z6, zI E 8 fL), (z7, zI E 8 fN)]) [2, 3, 0, 1] rfl
            have hD := hD.sub (ws' := [(y0, .inr (7, [v0, v1, v2, v3, v4, .int (nI k), .ref z5, v7, v8, v9, v10, v11, v12, v13, v14, v15, v16, .int (nI t), .int bo, .ref z6, .ref z7, v21, v22, v23, v24, v25, v26, v27])), (z5, zI E 100 fU), (z6, zI E 8 fL), (z7, zI E 8 fN)]) [2, 3, 0, 1] (by decide) rfl
            refine zz_goi (wr := [(z5, zI E 100 fU), (z7, zI E 8 fN)]) [0, 2] [1, 3] rfl rfl (by decide) (by decide) hA hP hD hS (zz_runV (wc := [(y0, .inr (7, [v0, v1, v2, v3, v4, .int (nI k), .ref z5, v7, v8, v9, v10, v11, v12, v13, v14, v15, v16, .int (nI t), .int bo, .ref z6, .ref z7, v21, v22, v23, v24, v25, v26, v27])), (z6, zI E 8 fL)]) (As := [.int (rt_u fU k (q + 2))]) (rest := []) C (c_Mo_thingOf l E y0 v0 v1 v2 v3 v4 (.int (nI k)) (.ref z5) v7 v8 v9 v10 v11 v12 v13 v14 v15 v16 (.int (nI t)) (.int bo) (.ref z7) v21 v22 v23 v24 v25 v26 v27 z6 fL (rt_u fU k (q + 2))) ym_Mo_thingOf wd_ml_Mo_120 wd_im_Mo_thingOf wd_se_Mo_thingOf [0, 2] (by decide) rfl hA hK hst hP hD hS (ci := 7) (q0 := 0) rfl rfl rfl rfl hl.1 rfl (Nat.le_of_ble_eq_true rfl) ⟨Nat.le_of_ble_eq_true rfl, Nat.le_of_ble_eq_true rfl⟩ ⟨Nat.le_of_ble_eq_true rfl, Nat.le_of_ble_eq_true rfl⟩ d_Mo_parse_198) (fun r_29 u H locs hwt hP hD hS => ?_)
            have hP : va_P E.1 vwCl [(z5, zI E 100 fU), (z7, zI E 8 fN), (y0, .inr (7, [v0, v1, v2, v3, v4, .int (nI k), .ref z5, v7, v8, v9, v10, v11, v12, v13, v14, v15, v16, .int (nI t), .int bo, .ref z6, .ref z7, v21, v22, v23, v24, v25, v26, v27])), (z6, zI E 8 fL)] H := hP
            have hD : va_D A [(z5, zI E 100 fU), (z7, zI E 8 fN), (y0, .inr (7, [v0, v1, v2, v3, v4, .int (nI k), .ref z5, v7, v8, v9, v10, v11, v12, v13, v14, v15, v16, .int (nI t), .int bo, .ref z6, .ref z7, v21, v22, v23, v24, v25, v26, v27])), (z6, zI E 8 fL)] := hD
            subst hwt
            have hP := hP.sub (ws' := [(y0, .inr (7, [v0, v1, v2, v3, v4, .int (nI k), .ref z5, v7, v8, v9, v10, v11, v12, v13, v14, v15, v16, .int (nI t), .int bo, .ref z6, .ref z7, v21, v22, v23, v24, v25, v26, v27])), (z5, zI E 100 fU), (z6, zI E 8 fL), (z7, zI E 8 fN)]) [2, 0, 3, 1] rfl
            have hD := hD.sub (ws' := [(y0, .inr (7, [v0, v1, v2, v3, v4, .int (nI k), .ref z5, v7, v8, v9, v10, v11, v12, v13, v14, v15, v16, .int (nI t), .int bo, .ref z6, .ref z7, v21, v22, v23, v24, v25, v26, v27])), (z5, zI E 100 fU), (z6, zI E 8 fL), (z7, zI E 8 fN)]) [2, 0, 3, 1] (by decide) rfl
            refine lv_istore_n (lv' := [(3, .int (rv_thing fL (rt_u fU k (q + 2)))), (2, .int (rv_thing fL (rt_u fU k (q + 1)))), (1, .int (nI (q + 1))), (0, .ref y0)]) hx hb d_Mo_parse_201 rfl hl (by decide) rfl (fun ls hl => ?_)
            refine lv_iload_n hx hb d_Mo_parse_202 rfl (lv_at hl 0 rfl) ?_
            refine lv_if_lt (tgt := 211) hx hb d_Mo_parse_203 (by decide) (fun c_30 => ?_) (fun c_30 => ?_)
            · have hnk : ¬ rv_kok t (rv_thing fL (rt_u fU k (q + 1))) (rv_thing fL (rt_u fU k (q + 2))) := fun z => absurd ((rt_kok_iff hok (by omega) hx1).mp z) (fun y => y.1 c_30)
              refine lv_iload_n hx hb d_Mo_parse_211 rfl (lv_at hl 2 rfl) ?_
              refine lv_iconst (v := 1) hx hb d_Mo_parse_212 (by decide) ?_
              refine lv_iadd hx hb d_Mo_parse_213 ?_
              refine zz_eqi (y := nI (q + 2)) (nI_1 _) ?_
              have hrf : (rt_pairs (rt_u fU k) k fL t 100 (rt_things (rt_u fU k) 100 0 (fL0, 0)).1 (fN0, 0)) = (nI (q + 2), fN, 0) := by rw [← hgo]; exact by rw [rt_pairs, if_pos h32, if_neg hnd, if_neg hm1, if_neg hnk]
              exact zz_reti C (rfl) hS (fL, fN, t, bo) (⟨fL0, fN0, hL0, hN0, ht.symm, fun z => absurd z hp0, fun _ => by
                show _ = (rt_pairs (rt_u fU k) k (rt_things (rt_u fU k) 100 0 (fL0, 0)).2.1 t 100 (rt_things (rt_u fU k) 100 0 (fL0, 0)).1 (fN0, 0)).1 ∧ fN = (rt_pairs (rt_u fU k) k (rt_things (rt_u fU k) 100 0 (fL0, 0)).2.1 t 100 (rt_things (rt_u fU k) 100 0 (fL0, 0)).1 (fN0, 0)).2.1 ∧ (_ = -1 → bo = _)
                rw [hT, hrf]
                exact ⟨rfl, rfl, fun z => absurd z (zz_nm1 (by omega))⟩⟩) hP hD d_Mo_parse_214
            · refine lv_iload_n hx hb d_Mo_parse_206 rfl (lv_at hl 1 rfl) ?_
              refine lv_iload_n hx hb d_Mo_parse_207 rfl (lv_at hl 0 rfl) ?_
              refine lv_icmp_ne (tgt := 215) hx hb d_Mo_parse_208 (by decide) (fun c_31 => ?_) (fun c_31 => ?_)
              · have hkk : rv_kok t (rv_thing fL (rt_u fU k (q + 1))) (rv_thing fL (rt_u fU k (q + 2))) := (rt_kok_iff hok (by omega) hx1).mpr ⟨c_30, c_31⟩
                have hv1 := rt_vp8 hok ht8 hx1
                have hv2 := rt_vp8 hok ht8 c_30
                refine lv_aload_n hx hb d_Mo_parse_215 rfl (lv_at hl 3 rfl) ?_
                refine zz_get C hK hP fl_Mo_50 0 rfl rfl d_Mo_parse_216 ?_
                refine lv_iload_n hx hb d_Mo_parse_219 rfl (lv_at hl 1 rfl) ?_
                refine lv_aload_n hx hb d_Mo_parse_220 rfl (lv_at hl 3 rfl) ?_
                refine zz_get C hK hP fl_Mo_50 0 rfl rfl d_Mo_parse_221 ?_
                refine lv_iload_n hx hb d_Mo_parse_224 rfl (lv_at hl 1 rfl) ?_
                refine zz_iald C hK hP 3 rfl (hv1) d_Mo_parse_225 ?_
                refine lv_iconst (v := 1) hx hb d_Mo_parse_226 (by decide) ?_
                refine lv_iload_n hx hb d_Mo_parse_227 rfl (lv_at hl 0 rfl) ?_
                refine lv_ishl hx hb d_Mo_parse_228 ?_
                refine lv_ior hx hb d_Mo_parse_229 ?_
                refine zz_iast C hK hP hD hS 3 rfl (hv1) d_Mo_parse_230 (fun H locs hP hD hS => ?_)
                have hP : va_P E.1 vwCl [(y0, .inr (7, [v0, v1, v2, v3, v4, .int (nI k), .ref z5, v7, v8, v9, v10, v11, v12, v13, v14, v15, v16, .int (nI t), .int bo, .ref z6, .ref z7, v21, v22, v23, v24, v25, v26, v27])), (z5, zI E 100 fU), (z6, zI E 8 fL), (z7, zI E 8 (upd fN (rv_thing fL (rt_u fU k (q + 1))).toNatClampNeg ((fN (rv_thing fL (rt_u fU k (q + 1))).toNatClampNeg) ||| (1 <<< ((rv_thing fL (rt_u fU k (q + 2))) &&& 31)))))] H := hP
                have hD : va_D A [(y0, .inr (7, [v0, v1, v2, v3, v4, .int (nI k), .ref z5, v7, v8, v9, v10, v11, v12, v13, v14, v15, v16, .int (nI t), .int bo, .ref z6, .ref z7, v21, v22, v23, v24, v25, v26, v27])), (z5, zI E 100 fU), (z6, zI E 8 fL), (z7, zI E 8 (upd fN (rv_thing fL (rt_u fU k (q + 1))).toNatClampNeg ((fN (rv_thing fL (rt_u fU k (q + 1))).toNatClampNeg) ||| (1 <<< ((rv_thing fL (rt_u fU k (q + 2))) &&& 31)))))] := hD
                refine lv_aload_n hx hb d_Mo_parse_231 rfl (lv_at hl 3 rfl) ?_
                refine zz_get C hK hP fl_Mo_50 0 rfl rfl d_Mo_parse_232 ?_
                refine lv_iload_n hx hb d_Mo_parse_235 rfl (lv_at hl 0 rfl) ?_
                refine lv_aload_n hx hb d_Mo_parse_236 rfl (lv_at hl 3 rfl) ?_
                refine zz_get C hK hP fl_Mo_50 0 rfl rfl d_Mo_parse_237 ?_
                refine lv_iload_n hx hb d_Mo_parse_240 rfl (lv_at hl 0 rfl) ?_
                refine zz_iald C hK hP 3 rfl (hv2) d_Mo_parse_241 ?_
                refine lv_iconst (v := 1) hx hb d_Mo_parse_242 (by decide) ?_
                refine lv_iload_n hx hb d_Mo_parse_243 rfl (lv_at hl 1 rfl) ?_
                refine lv_ishl hx hb d_Mo_parse_244 ?_
                refine lv_ior hx hb d_Mo_parse_245 ?_
                refine zz_iast C hK hP hD hS 3 rfl (hv2) d_Mo_parse_246 (fun H locs hP hD hS => ?_)
                have hP : va_P E.1 vwCl [(y0, .inr (7, [v0, v1, v2, v3, v4, .int (nI k), .ref z5, v7, v8, v9, v10, v11, v12, v13, v14, v15, v16, .int (nI t), .int bo, .ref z6, .ref z7, v21, v22, v23, v24, v25, v26, v27])), (z5, zI E 100 fU), (z6, zI E 8 fL), (z7, zI E 8 (upd (upd fN (rv_thing fL (rt_u fU k (q + 1))).toNatClampNeg ((fN (rv_thing fL (rt_u fU k (q + 1))).toNatClampNeg) ||| (1 <<< ((rv_thing fL (rt_u fU k (q + 2))) &&& 31)))) (rv_thing fL (rt_u fU k (q + 2))).toNatClampNeg (((upd fN (rv_thing fL (rt_u fU k (q + 1))).toNatClampNeg ((fN (rv_thing fL (rt_u fU k (q + 1))).toNatClampNeg) ||| (1 <<< ((rv_thing fL (rt_u fU k (q + 2))) &&& 31)))) (rv_thing fL (rt_u fU k (q + 2))).toNatClampNeg) ||| (1 <<< ((rv_thing fL (rt_u fU k (q + 1))) &&& 31)))))] H := hP
                have hD : va_D A [(y0, .inr (7, [v0, v1, v2, v3, v4, .int (nI k), .ref z5, v7, v8, v9, v10, v11, v12, v13, v14, v15, v16, .int (nI t), .int bo, .ref z6, .ref z7, v21, v22, v23, v24, v25, v26, v27])), (z5, zI E 100 fU), (z6, zI E 8 fL), (z7, zI E 8 (upd (upd fN (rv_thing fL (rt_u fU k (q + 1))).toNatClampNeg ((fN (rv_thing fL (rt_u fU k (q + 1))).toNatClampNeg) ||| (1 <<< ((rv_thing fL (rt_u fU k (q + 2))) &&& 31)))) (rv_thing fL (rt_u fU k (q + 2))).toNatClampNeg (((upd fN (rv_thing fL (rt_u fU k (q + 1))).toNatClampNeg ((fN (rv_thing fL (rt_u fU k (q + 1))).toNatClampNeg) ||| (1 <<< ((rv_thing fL (rt_u fU k (q + 2))) &&& 31)))) (rv_thing fL (rt_u fU k (q + 2))).toNatClampNeg) ||| (1 <<< ((rv_thing fL (rt_u fU k (q + 1))) &&& 31)))))] := hD
                refine lv_iinc (v := nI (q + 3)) (lv' := [(1, .int (nI (q + 3))), (3, .int (rv_thing fL (rt_u fU k (q + 2)))), (2, .int (rv_thing fL (rt_u fU k (q + 1)))), (0, .ref y0)]) hx hb d_Mo_parse_247 hl (k := 2) rfl (nI_add _ 2) (by decide) rfl (fun ls hl => ?_)
                refine lv_goto (tgt := 109) hx hb d_Mo_parse_250 (by decide) ?_
                exact ih (q + 3) (rv_keep fN (rv_thing fL (rt_u fU k (q + 1))) (rv_thing fL (rt_u fU k (q + 2)))) bo (by omega) (by omega) (by rw [← hgo, rt_pairs, if_pos h32, if_neg hnd, if_neg hm1, if_pos hkk]) _ _ ls hP hD hS (lv_sub hl [3, 0] rfl)
              · have hnk : ¬ rv_kok t (rv_thing fL (rt_u fU k (q + 1))) (rv_thing fL (rt_u fU k (q + 2))) := fun z => absurd ((rt_kok_iff hok (by omega) hx1).mp z) (fun y => y.2 c_31)
                refine lv_iload_n hx hb d_Mo_parse_211 rfl (lv_at hl 2 rfl) ?_
                refine lv_iconst (v := 1) hx hb d_Mo_parse_212 (by decide) ?_
                refine lv_iadd hx hb d_Mo_parse_213 ?_
                refine zz_eqi (y := nI (q + 2)) (nI_1 _) ?_
                have hrf : (rt_pairs (rt_u fU k) k fL t 100 (rt_things (rt_u fU k) 100 0 (fL0, 0)).1 (fN0, 0)) = (nI (q + 2), fN, 0) := by rw [← hgo]; exact by rw [rt_pairs, if_pos h32, if_neg hnd, if_neg hm1, if_neg hnk]
                exact zz_reti C (rfl) hS (fL, fN, t, bo) (⟨fL0, fN0, hL0, hN0, ht.symm, fun z => absurd z hp0, fun _ => by
                  show _ = (rt_pairs (rt_u fU k) k (rt_things (rt_u fU k) 100 0 (fL0, 0)).2.1 t 100 (rt_things (rt_u fU k) 100 0 (fL0, 0)).1 (fN0, 0)).1 ∧ fN = (rt_pairs (rt_u fU k) k (rt_things (rt_u fU k) 100 0 (fL0, 0)).2.1 t 100 (rt_things (rt_u fU k) 100 0 (fL0, 0)).1 (fN0, 0)).2.1 ∧ (_ = -1 → bo = _)
                  rw [hT, hrf]
                  exact ⟨rfl, rfl, fun z => absurd z (zz_nm1 (by omega))⟩⟩) hP hD d_Mo_parse_214
          · have hm1 : rv_thing fL (rt_u fU k (q + 1)) = -1 := rt_ok_neg hok (by omega) (zz_lt0 c_27)
            refine lv_iload_n hx hb d_Mo_parse_188 rfl (lv_at hl 1 rfl) ?_
            have hrf : (rt_pairs (rt_u fU k) k fL t 100 (rt_things (rt_u fU k) 100 0 (fL0, 0)).1 (fN0, 0)) = (nI (q + 1), fN, 0) := by rw [← hgo]; exact by rw [rt_pairs, if_pos h32, if_neg hnd, if_pos hm1]
            exact zz_reti C (rfl) hS (fL, fN, t, bo) (⟨fL0, fN0, hL0, hN0, ht.symm, fun z => absurd z hp0, fun _ => by
              show _ = (rt_pairs (rt_u fU k) k (rt_things (rt_u fU k) 100 0 (fL0, 0)).2.1 t 100 (rt_things (rt_u fU k) 100 0 (fL0, 0)).1 (fN0, 0)).1 ∧ fN = (rt_pairs (rt_u fU k) k (rt_things (rt_u fU k) 100 0 (fL0, 0)).2.1 t 100 (rt_things (rt_u fU k) 100 0 (fL0, 0)).1 (fN0, 0)).2.1 ∧ (_ = -1 → bo = _)
              rw [hT, hrf]
              exact ⟨rfl, rfl, fun z => absurd z (zz_nm1 (by omega))⟩⟩) hP hD d_Mo_parse_189
        · have hdg : ¬ (rt_u fU k (q + 1)) < 49 ∧ (rt_u fU k (q + 1)) ≤ 51 := ⟨c_15, zz_nlt c_24⟩
          refine lv_aload_n hx hb d_Mo_parse_144 rfl (lv_at hl 1 rfl) ?_
          refine lv_aload_n hx hb d_Mo_parse_145 rfl (lv_at hl 1 rfl) ?_
          refine lv_iload_n hx hb d_Mo_parse_146 rfl (lv_at hl 0 rfl) ?_
          refine zz_goi (wr := [(z6, zI E 8 fL), (z7, zI E 8 fN)]) [0, 1] [2, 3] rfl rfl (by decide) (by decide) hA hP hD hS (zz_runV (wc := [(y0, .inr (7, [v0, v1, v2, v3, v4, .int (nI k), .ref z5, v7, v8, v9, v10, v11, v12, v13, v14, v15, v16, .int (nI t), .int bo, .ref z6, .ref z7, v21, v22, v23, v24, v25, v26, v27])), (z5, zI E 100 fU)]) (As := [.int (nI (q + 1))]) (rest := [.ref y0]) C (c_Mo_byteAt l E y0 v0 v1 v2 v3 v4 v7 v8 v9 v10 v11 v12 v13 v14 v15 v16 (.int (nI t)) (.int bo) (.ref z6) (.ref z7) v21 v22 v23 v24 v25 v26 v27 z5 k (q + 1) fU hk (by omega)) ym_Mo_byteAt wd_ml_Mo_117 wd_im_Mo_byteAt wd_se_Mo_byteAt [0, 1] (by decide) rfl hA hK hst hP hD hS (ci := 7) (q0 := 0) rfl rfl rfl rfl hl.1 rfl (Nat.le_of_ble_eq_true rfl) ⟨Nat.le_of_ble_eq_true rfl, Nat.le_of_ble_eq_true rfl⟩ ⟨Nat.le_of_ble_eq_true rfl, Nat.le_of_ble_eq_true rfl⟩ d_Mo_parse_147) (fun r_32 u H locs hwb hP hD hS => ?_)
          have hP : va_P E.1 vwCl [(z6, zI E 8 fL), (z7, zI E 8 fN), (y0, .inr (7, [v0, v1, v2, v3, v4, .int (nI k), .ref z5, v7, v8, v9, v10, v11, v12, v13, v14, v15, v16, .int (nI t), .int bo, .ref z6, .ref z7, v21, v22, v23, v24, v25, v26, v27])), (z5, zI E 100 fU)] H := hP
          have hD : va_D A [(z6, zI E 8 fL), (z7, zI E 8 fN), (y0, .inr (7, [v0, v1, v2, v3, v4, .int (nI k), .ref z5, v7, v8, v9, v10, v11, v12, v13, v14, v15, v16, .int (nI t), .int bo, .ref z6, .ref z7, v21, v22, v23, v24, v25, v26, v27])), (z5, zI E 100 fU)] := hD
          subst hwb
          have hP := hP.sub (ws' := [(y0, .inr (7, [v0, v1, v2, v3, v4, .int (nI k), .ref z5, v7, v8, v9, v10, v11, v12, v13, v14, v15, v16, .int (nI t), .int bo, .ref z6, .ref z7, v21, v22, v23, v24, v25, v26, v27])), (z5, zI E 100 fU), (z6, zI E 8 fL), (z7, zI E 8 fN)]) [2, 3, 0, 1] rfl
          have hD := hD.sub (ws' := [(y0, .inr (7, [v0, v1, v2, v3, v4, .int (nI k), .ref z5, v7, v8, v9, v10, v11, v12, v13, v14, v15, v16, .int (nI t), .int bo, .ref z6, .ref z7, v21, v22, v23, v24, v25, v26, v27])), (z5, zI E 100 fU), (z6, zI E 8 fL), (z7, zI E 8 fN)]) [2, 3, 0, 1] (by decide) rfl
          refine lv_bipush (v := 48) hx hb d_Mo_parse_150 (by decide) ?_
          refine lv_isub hx hb d_Mo_parse_152 ?_
          refine zz_put C hK hP hD hS fl_Mo_123 0 rfl rfl rfl (Nat.le_of_ble_eq_true rfl) d_Mo_parse_153 (fun H locs hP hD hS => ?_)
          have hP : va_P E.1 vwCl [(y0, .inr (7, [v0, v1, v2, v3, v4, .int (nI k), .ref z5, v7, v8, v9, v10, v11, v12, v13, v14, v15, v16, .int (nI t), .int ((rt_u fU k (q + 1)) - 48), .ref z6, .ref z7, v21, v22, v23, v24, v25, v26, v27])), (z5, zI E 100 fU), (z6, zI E 8 fL), (z7, zI E 8 fN)] H := hP
          have hD : va_D A [(y0, .inr (7, [v0, v1, v2, v3, v4, .int (nI k), .ref z5, v7, v8, v9, v10, v11, v12, v13, v14, v15, v16, .int (nI t), .int ((rt_u fU k (q + 1)) - 48), .ref z6, .ref z7, v21, v22, v23, v24, v25, v26, v27])), (z5, zI E 100 fU), (z6, zI E 8 fL), (z7, zI E 8 fN)] := hD
          refine lv_iload_n hx hb d_Mo_parse_156 rfl (lv_at hl 0 rfl) ?_
          refine lv_iconst (v := 1) hx hb d_Mo_parse_157 (by decide) ?_
          refine lv_iadd hx hb d_Mo_parse_158 ?_
          refine zz_eqi (y := nI (q + 2)) (nI_1 _) ?_
          refine lv_aload_n hx hb d_Mo_parse_159 rfl (lv_at hl 1 rfl) ?_
          refine zz_get C hK hP fl_Mo_111 0 rfl rfl d_Mo_parse_160 ?_
          refine lv_icmp_ne (tgt := 170) hx hb d_Mo_parse_163 (by decide) (fun c_33 => ?_) (fun c_33 => ?_)
          · have he : ¬ q + 2 = k := fun z => c_33 (by rw [z])
            refine lv_iload_n hx hb d_Mo_parse_170 rfl (lv_at hl 0 rfl) ?_
            refine lv_iconst (v := 1) hx hb d_Mo_parse_171 (by decide) ?_
            refine lv_iadd hx hb d_Mo_parse_172 ?_
            refine zz_eqi (y := nI (q + 2)) (nI_1 _) ?_
            have hrf : (rt_pairs (rt_u fU k) k fL t 100 (rt_things (rt_u fU k) 100 0 (fL0, 0)).1 (fN0, 0)) = (nI (q + 2), fN, (rt_u fU k (q + 1)) - 48) := by rw [← hgo]; exact by rw [rt_pairs, if_pos h32, if_pos hdg, if_neg he]
            exact zz_reti C (rfl) hS (fL, fN, t, (rt_u fU k (q + 1)) - 48) (⟨fL0, fN0, hL0, hN0, ht.symm, fun z => absurd z hp0, fun _ => by
              show _ = (rt_pairs (rt_u fU k) k (rt_things (rt_u fU k) 100 0 (fL0, 0)).2.1 t 100 (rt_things (rt_u fU k) 100 0 (fL0, 0)).1 (fN0, 0)).1 ∧ fN = (rt_pairs (rt_u fU k) k (rt_things (rt_u fU k) 100 0 (fL0, 0)).2.1 t 100 (rt_things (rt_u fU k) 100 0 (fL0, 0)).1 (fN0, 0)).2.1 ∧ (_ = -1 → (rt_u fU k (q + 1)) - 48 = _)
              rw [hT, hrf]
              exact ⟨rfl, rfl, fun _ => rfl⟩⟩) hP hD d_Mo_parse_173
          · have he : q + 2 = k := (nI_eq (by omega) (by omega)).mp c_33
            refine lv_iconst (v := (-1)) hx hb d_Mo_parse_166 (by decide) ?_
            refine lv_goto (tgt := 173) hx hb d_Mo_parse_167 (by decide) ?_
            have hrf : (rt_pairs (rt_u fU k) k fL t 100 (rt_things (rt_u fU k) 100 0 (fL0, 0)).1 (fN0, 0)) = (-1, fN, (rt_u fU k (q + 1)) - 48) := by rw [← hgo]; exact by rw [rt_pairs, if_pos h32, if_pos hdg, if_pos he]
            exact zz_reti C (rfl) hS (fL, fN, t, (rt_u fU k (q + 1)) - 48) (⟨fL0, fN0, hL0, hN0, ht.symm, fun z => absurd z hp0, fun _ => by
              show _ = (rt_pairs (rt_u fU k) k (rt_things (rt_u fU k) 100 0 (fL0, 0)).2.1 t 100 (rt_things (rt_u fU k) 100 0 (fL0, 0)).1 (fN0, 0)).1 ∧ fN = (rt_pairs (rt_u fU k) k (rt_things (rt_u fU k) 100 0 (fL0, 0)).2.1 t 100 (rt_things (rt_u fU k) 100 0 (fL0, 0)).1 (fN0, 0)).2.1 ∧ (_ = -1 → (rt_u fU k (q + 1)) - 48 = _)
              rw [hT, hrf]
              exact ⟨rfl, rfl, fun _ => rfl⟩⟩) hP hD d_Mo_parse_173
    · refine lv_iload_n hx hb d_Mo_parse_119 rfl (lv_at hl 1 rfl) ?_
      have hrf : (rt_pairs (rt_u fU k) k fL t 100 (rt_things (rt_u fU k) 100 0 (fL0, 0)).1 (fN0, 0)) = (nI (q), fN, 0) := by rw [← hgo]; exact by rw [rt_pairs, if_neg c_13]
      exact zz_reti C (rfl) hS (fL, fN, t, bo) (⟨fL0, fN0, hL0, hN0, ht.symm, fun z => absurd z hp0, fun _ => by
        show _ = (rt_pairs (rt_u fU k) k (rt_things (rt_u fU k) 100 0 (fL0, 0)).2.1 t 100 (rt_things (rt_u fU k) 100 0 (fL0, 0)).1 (fN0, 0)).1 ∧ fN = (rt_pairs (rt_u fU k) k (rt_things (rt_u fU k) 100 0 (fL0, 0)).2.1 t 100 (rt_things (rt_u fU k) 100 0 (fL0, 0)).1 (fN0, 0)).2.1 ∧ (_ = -1 → bo = _)
        rw [hT, hrf]
        exact ⟨rfl, rfl, fun z => absurd z (zz_nm1 (by omega))⟩⟩) hP hD d_Mo_parse_120

set_option maxHeartbeats 4000000 in
set_option maxRecDepth 100000 in
theorem lp_Mo_things {p : Program} {l : Launch} {e : Env} {s : State} {m : MethodId} {below : List Frame} {meth : Method} {c : Code} {A : Nat → Prop}  {E : zG} {y0 : Nat} {v0 v1 v2 v3 v4 v7 v8 v9 v10 v11 v12 v13 v14 v15 v16 v21 v22 v23 v24 v25 v26 v27 : Value} {z5 z6 z7 k : Nat} {fU : Nat → Int32} (hk : k ≤ 100) {fL0 fN0 : Nat → Int32} {bo : Int32} (hL0 : ∀ j, j < 8 → fL0 j = -1) (hN0 : ∀ j, j < 8 → fN0 j = 0) (C : cx p s m #[.ref y0] meth c b_Mo_parse 4 y_Mo_parse.cls (some .int)) (hA : ∀ q, s.heap.size ≤ q → A q) (hK : kt E s) (hst : stt A s s.heap) :
    ∀ (f q : Nat) (fL : Nat → Int32) (_ : q + f = 100) (_ : rt_ok fL q) (_ : rt_things (rt_u fU k) f q (fL, q) = (rt_things (rt_u fU k) 100 0 (fL0, 0))) (H : Heap) (locs : List Loc) (ls : Array Slot), va_P E.1 vwCl [(y0, .inr (7, [v0, v1, v2, v3, v4, .int (nI k), .ref z5, v7, v8, v9, v10, v11, v12, v13, v14, v15, v16, .int (nI q), .int bo, .ref z6, .ref z7, v21, v22, v23, v24, v25, v26, v27])), (z5, zI E 100 fU), (z6, zI E 8 fL), (z7, zI E 8 fN0)] H → va_D A [(y0, .inr (7, [v0, v1, v2, v3, v4, .int (nI k), .ref z5, v7, v8, v9, v10, v11, v12, v13, v14, v15, v16, .int (nI q), .int bo, .ref z6, .ref z7, v21, v22, v23, v24, v25, v26, v27])), (z5, zI E 100 fU), (z6, zI E 8 fL), (z7, zI E 8 fN0)] → va_S A s.heap H locs → lv_has ls 4 [(0, .ref y0), (1, .int (nI q))] → W p l e (zR 1 21 0 0) s m #[.ref y0] below meth c H locs 0 0 (MQ below ((zQi E (S := (Nat → Int32) × (Nat → Int32) × Nat × Int32) (fun r u => ∃ fL0 fN0 : Nat → Int32, (∀ j, j < 8 → fL0 j = -1) ∧ (∀ j, j < 8 → fN0 j = 0) ∧ u.2.2.1 = (rt_things (rt_u fU k) 100 0 (fL0, 0)).2.2 ∧ ((rt_things (rt_u fU k) 100 0 (fL0, 0)).1 = 0 → r = 0) ∧ (¬ (rt_things (rt_u fU k) 100 0 (fL0, 0)).1 = 0 → r = (rt_pairs (rt_u fU k) k (rt_things (rt_u fU k) 100 0 (fL0, 0)).2.1 u.2.2.1 100 (rt_things (rt_u fU k) 100 0 (fL0, 0)).1 (fN0, 0)).1 ∧ u.2.1 = (rt_pairs (rt_u fU k) k (rt_things (rt_u fU k) 100 0 (fL0, 0)).2.1 u.2.2.1 100 (rt_things (rt_u fU k) 100 0 (fL0, 0)).1 (fN0, 0)).2.1 ∧ (r = -1 → u.2.2.2 = (rt_pairs (rt_u fU k) k (rt_things (rt_u fU k) 100 0 (fL0, 0)).2.1 u.2.2.1 100 (rt_things (rt_u fU k) 100 0 (fL0, 0)).1 (fN0, 0)).2.2))) (fun u => [(y0, .inr (7, [v0, v1, v2, v3, v4, .int (nI k), .ref z5, v7, v8, v9, v10, v11, v12, v13, v14, v15, v16, .int (nI u.2.2.1), .int u.2.2.2, .ref z6, .ref z7, v21, v22, v23, v24, v25, v26, v27])), (z5, zI E 100 fU), (z6, zI E 8 u.1), (z7, zI E 8 u.2.1)])) A) #[.ref y0] s 0 0 A) (F0 m 35 ls []) := by
  obtain ⟨hx, hb, hr, hml, hown, hts, hlk⟩ := id C
  have ht8 : (rt_things (rt_u fU k) 100 0 (fL0, 0)).2.2 ≤ 8 := rt_things_le hL0
  intro f
  induction f with
  | zero =>
    intro q fL hf hok hgo H locs ls hP hD hS hl
    refine lv_aload_n hx hb d_Mo_parse_35 rfl (lv_at hl 0 rfl) ?_
    refine lv_iload_n hx hb d_Mo_parse_36 rfl (lv_at hl 1 rfl) ?_
    refine zz_goi (wr := [(z6, zI E 8 fL), (z7, zI E 8 fN0)]) [0, 1] [2, 3] rfl rfl (by decide) (by decide) hA hP hD hS (zz_runV (wc := [(y0, .inr (7, [v0, v1, v2, v3, v4, .int (nI k), .ref z5, v7, v8, v9, v10, v11, v12, v13, v14, v15, v16, .int (nI q), .int bo, .ref z6, .ref z7, v21, v22, v23, v24, v25, v26, v27])), (z5, zI E 100 fU)]) (As := [.int (nI q)]) (rest := []) C (c_Mo_byteAt l E y0 v0 v1 v2 v3 v4 v7 v8 v9 v10 v11 v12 v13 v14 v15 v16 (.int (nI q)) (.int bo) (.ref z6) (.ref z7) v21 v22 v23 v24 v25 v26 v27 z5 k q fU hk (by omega)) ym_Mo_byteAt wd_ml_Mo_117 wd_im_Mo_byteAt wd_se_Mo_byteAt [0, 1] (by decide) rfl hA hK hst hP hD hS (ci := 7) (q0 := 0) rfl rfl rfl rfl hl.1 rfl (Nat.le_of_ble_eq_true rfl) ⟨Nat.le_of_ble_eq_true rfl, Nat.le_of_ble_eq_true rfl⟩ ⟨Nat.le_of_ble_eq_true rfl, Nat.le_of_ble_eq_true rfl⟩ d_Mo_parse_37) (fun r_34 u H locs hwb hP hD hS => ?_)
    have hP : va_P E.1 vwCl [(z6, zI E 8 fL), (z7, zI E 8 fN0), (y0, .inr (7, [v0, v1, v2, v3, v4, .int (nI k), .ref z5, v7, v8, v9, v10, v11, v12, v13, v14, v15, v16, .int (nI q), .int bo, .ref z6, .ref z7, v21, v22, v23, v24, v25, v26, v27])), (z5, zI E 100 fU)] H := hP
    have hD : va_D A [(z6, zI E 8 fL), (z7, zI E 8 fN0), (y0, .inr (7, [v0, v1, v2, v3, v4, .int (nI k), .ref z5, v7, v8, v9, v10, v11, v12, v13, v14, v15, v16, .int (nI q), .int bo, .ref z6, .ref z7, v21, v22, v23, v24, v25, v26, v27])), (z5, zI E 100 fU)] := hD
    subst hwb
    have hP := hP.sub (ws' := [(y0, .inr (7, [v0, v1, v2, v3, v4, .int (nI k), .ref z5, v7, v8, v9, v10, v11, v12, v13, v14, v15, v16, .int (nI q), .int bo, .ref z6, .ref z7, v21, v22, v23, v24, v25, v26, v27])), (z5, zI E 100 fU), (z6, zI E 8 fL), (z7, zI E 8 fN0)]) [2, 3, 0, 1] rfl
    have hD := hD.sub (ws' := [(y0, .inr (7, [v0, v1, v2, v3, v4, .int (nI k), .ref z5, v7, v8, v9, v10, v11, v12, v13, v14, v15, v16, .int (nI q), .int bo, .ref z6, .ref z7, v21, v22, v23, v24, v25, v26, v27])), (z5, zI E 100 fU), (z6, zI E 8 fL), (z7, zI E 8 fN0)]) [2, 3, 0, 1] (by decide) rfl
    refine lv_bipush (v := 97) hx hb d_Mo_parse_40 (by decide) ?_
    refine lv_icmp_lt (tgt := 100) hx hb d_Mo_parse_42 (by decide) (fun c_35 => ?_) (fun c_35 => ?_)
    · have hrf : (rt_things (rt_u fU k) 100 0 (fL0, 0)) = (q, fL, q) := by rw [← hgo]; exact rfl
      have hq8 : q ≤ 8 := by
        have := ht8
        rw [hrf] at this
        exact this
      refine lv_aload_n hx hb d_Mo_parse_100 rfl (lv_at hl 0 rfl) ?_
      refine zz_get C hK hP fl_Mo_114 0 rfl rfl d_Mo_parse_101 ?_
      refine lv_if_ne (tgt := 109) hx hb d_Mo_parse_104 (by decide) (fun c_36 => ?_) (fun c_36 => ?_)
      · have hq0 : ¬ q = 0 := fun z => c_36 (by rw [z]; rfl)
        exact lp_Mo_pairs hk hL0 hN0 (fL := fL) (t := q) (by rw [hrf]) (by rw [hrf]) (by rw [hrf]; exact hq0) hok hq8 C hA hK hst 100 q fN0 bo (by omega) (by omega) (by rw [hrf]) _ _ ls hP hD hS (lv_sub hl [0, 1] rfl)
      · have hq0 : q = 0 := zz_nI0 c_36 (by omega)
        refine lv_iload_n hx hb d_Mo_parse_107 rfl (lv_at hl 1 rfl) ?_
        exact zz_reti C (rfl) hS (fL, fN0, q, bo) (⟨fL0, fN0, hL0, hN0, (by rw [hrf]), fun _ => (by rw [hq0]; rfl), fun z => absurd (by rw [hrf]; exact hq0) z⟩) hP hD d_Mo_parse_108
    · exact absurd (by rw [rt_u_32 (by omega)]; decide) c_35
  | succ f ih =>
    intro q fL hf hok hgo H locs ls hP hD hS hl
    refine lv_aload_n hx hb d_Mo_parse_35 rfl (lv_at hl 0 rfl) ?_
    refine lv_iload_n hx hb d_Mo_parse_36 rfl (lv_at hl 1 rfl) ?_
    refine zz_goi (wr := [(z6, zI E 8 fL), (z7, zI E 8 fN0)]) [0, 1] [2, 3] rfl rfl (by decide) (by decide) hA hP hD hS (zz_runV (wc := [(y0, .inr (7, [v0, v1, v2, v3, v4, .int (nI k), .ref z5, v7, v8, v9, v10, v11, v12, v13, v14, v15, v16, .int (nI q), .int bo, .ref z6, .ref z7, v21, v22, v23, v24, v25, v26, v27])), (z5, zI E 100 fU)]) (As := [.int (nI q)]) (rest := []) C (c_Mo_byteAt l E y0 v0 v1 v2 v3 v4 v7 v8 v9 v10 v11 v12 v13 v14 v15 v16 (.int (nI q)) (.int bo) (.ref z6) (.ref z7) v21 v22 v23 v24 v25 v26 v27 z5 k q fU hk (by omega)) ym_Mo_byteAt wd_ml_Mo_117 wd_im_Mo_byteAt wd_se_Mo_byteAt [0, 1] (by decide) rfl hA hK hst hP hD hS (ci := 7) (q0 := 0) rfl rfl rfl rfl hl.1 rfl (Nat.le_of_ble_eq_true rfl) ⟨Nat.le_of_ble_eq_true rfl, Nat.le_of_ble_eq_true rfl⟩ ⟨Nat.le_of_ble_eq_true rfl, Nat.le_of_ble_eq_true rfl⟩ d_Mo_parse_37) (fun r_37 u H locs hwb hP hD hS => ?_)
    have hP : va_P E.1 vwCl [(z6, zI E 8 fL), (z7, zI E 8 fN0), (y0, .inr (7, [v0, v1, v2, v3, v4, .int (nI k), .ref z5, v7, v8, v9, v10, v11, v12, v13, v14, v15, v16, .int (nI q), .int bo, .ref z6, .ref z7, v21, v22, v23, v24, v25, v26, v27])), (z5, zI E 100 fU)] H := hP
    have hD : va_D A [(z6, zI E 8 fL), (z7, zI E 8 fN0), (y0, .inr (7, [v0, v1, v2, v3, v4, .int (nI k), .ref z5, v7, v8, v9, v10, v11, v12, v13, v14, v15, v16, .int (nI q), .int bo, .ref z6, .ref z7, v21, v22, v23, v24, v25, v26, v27])), (z5, zI E 100 fU)] := hD
    subst hwb
    have hP := hP.sub (ws' := [(y0, .inr (7, [v0, v1, v2, v3, v4, .int (nI k), .ref z5, v7, v8, v9, v10, v11, v12, v13, v14, v15, v16, .int (nI q), .int bo, .ref z6, .ref z7, v21, v22, v23, v24, v25, v26, v27])), (z5, zI E 100 fU), (z6, zI E 8 fL), (z7, zI E 8 fN0)]) [2, 3, 0, 1] rfl
    have hD := hD.sub (ws' := [(y0, .inr (7, [v0, v1, v2, v3, v4, .int (nI k), .ref z5, v7, v8, v9, v10, v11, v12, v13, v14, v15, v16, .int (nI q), .int bo, .ref z6, .ref z7, v21, v22, v23, v24, v25, v26, v27])), (z5, zI E 100 fU), (z6, zI E 8 fL), (z7, zI E 8 fN0)]) [2, 3, 0, 1] (by decide) rfl
    refine lv_bipush (v := 97) hx hb d_Mo_parse_40 (by decide) ?_
    refine lv_icmp_lt (tgt := 100) hx hb d_Mo_parse_42 (by decide) (fun c_38 => ?_) (fun c_38 => ?_)
    · have hrf : (rt_things (rt_u fU k) 100 0 (fL0, 0)) = (q, fL, q) := by rw [← hgo]; exact by rw [rt_things_neg (fun z => ((rt_addok_iff hok (by omega) _).mp z).1 c_38)]
      have hq8 : q ≤ 8 := by
        have := ht8
        rw [hrf] at this
        exact this
      refine lv_aload_n hx hb d_Mo_parse_100 rfl (lv_at hl 0 rfl) ?_
      refine zz_get C hK hP fl_Mo_114 0 rfl rfl d_Mo_parse_101 ?_
      refine lv_if_ne (tgt := 109) hx hb d_Mo_parse_104 (by decide) (fun c_39 => ?_) (fun c_39 => ?_)
      · have hq0 : ¬ q = 0 := fun z => c_39 (by rw [z]; rfl)
        exact lp_Mo_pairs hk hL0 hN0 (fL := fL) (t := q) (by rw [hrf]) (by rw [hrf]) (by rw [hrf]; exact hq0) hok hq8 C hA hK hst 100 q fN0 bo (by omega) (by omega) (by rw [hrf]) _ _ ls hP hD hS (lv_sub hl [0, 1] rfl)
      · have hq0 : q = 0 := zz_nI0 c_39 (by omega)
        refine lv_iload_n hx hb d_Mo_parse_107 rfl (lv_at hl 1 rfl) ?_
        exact zz_reti C (rfl) hS (fL, fN0, q, bo) (⟨fL0, fN0, hL0, hN0, (by rw [hrf]), fun _ => (by rw [hq0]; rfl), fun z => absurd (by rw [hrf]; exact hq0) z⟩) hP hD d_Mo_parse_108
    · refine lv_aload_n hx hb d_Mo_parse_45 rfl (lv_at hl 0 rfl) ?_
      refine lv_iload_n hx hb d_Mo_parse_46 rfl (lv_at hl 1 rfl) ?_
      refine zz_goi (wr := [(z6, zI E 8 fL), (z7, zI E 8 fN0)]) [0, 1] [2, 3] rfl rfl (by decide) (by decide) hA hP hD hS (zz_runV (wc := [(y0, .inr (7, [v0, v1, v2, v3, v4, .int (nI k), .ref z5, v7, v8, v9, v10, v11, v12, v13, v14, v15, v16, .int (nI q), .int bo, .ref z6, .ref z7, v21, v22, v23, v24, v25, v26, v27])), (z5, zI E 100 fU)]) (As := [.int (nI q)]) (rest := []) C (c_Mo_byteAt l E y0 v0 v1 v2 v3 v4 v7 v8 v9 v10 v11 v12 v13 v14 v15 v16 (.int (nI q)) (.int bo) (.ref z6) (.ref z7) v21 v22 v23 v24 v25 v26 v27 z5 k q fU hk (by omega)) ym_Mo_byteAt wd_ml_Mo_117 wd_im_Mo_byteAt wd_se_Mo_byteAt [0, 1] (by decide) rfl hA hK hst hP hD hS (ci := 7) (q0 := 0) rfl rfl rfl rfl hl.1 rfl (Nat.le_of_ble_eq_true rfl) ⟨Nat.le_of_ble_eq_true rfl, Nat.le_of_ble_eq_true rfl⟩ ⟨Nat.le_of_ble_eq_true rfl, Nat.le_of_ble_eq_true rfl⟩ d_Mo_parse_47) (fun r_40 u H locs hwb hP hD hS => ?_)
      have hP : va_P E.1 vwCl [(z6, zI E 8 fL), (z7, zI E 8 fN0), (y0, .inr (7, [v0, v1, v2, v3, v4, .int (nI k), .ref z5, v7, v8, v9, v10, v11, v12, v13, v14, v15, v16, .int (nI q), .int bo, .ref z6, .ref z7, v21, v22, v23, v24, v25, v26, v27])), (z5, zI E 100 fU)] H := hP
      have hD : va_D A [(z6, zI E 8 fL), (z7, zI E 8 fN0), (y0, .inr (7, [v0, v1, v2, v3, v4, .int (nI k), .ref z5, v7, v8, v9, v10, v11, v12, v13, v14, v15, v16, .int (nI q), .int bo, .ref z6, .ref z7, v21, v22, v23, v24, v25, v26, v27])), (z5, zI E 100 fU)] := hD
      subst hwb
      have hP := hP.sub (ws' := [(y0, .inr (7, [v0, v1, v2, v3, v4, .int (nI k), .ref z5, v7, v8, v9, v10, v11, v12, v13, v14, v15, v16, .int (nI q), .int bo, .ref z6, .ref z7, v21, v22, v23, v24, v25, v26, v27])), (z5, zI E 100 fU), (z6, zI E 8 fL), (z7, zI E 8 fN0)]) [2, 3, 0, 1] rfl
      have hD := hD.sub (ws' := [(y0, .inr (7, [v0, v1, v2, v3, v4, .int (nI k), .ref z5, v7, v8, v9, v10, v11, v12, v13, v14, v15, v16, .int (nI q), .int bo, .ref z6, .ref z7, v21, v22, v23, v24, v25, v26, v27])), (z5, zI E 100 fU), (z6, zI E 8 fL), (z7, zI E 8 fN0)]) [2, 3, 0, 1] (by decide) rfl
      refine lv_bipush (v := 104) hx hb d_Mo_parse_50 (by decide) ?_
      refine lv_icmp_gt (tgt := 100) hx hb d_Mo_parse_52 (by decide) (fun c_41 => ?_) (fun c_41 => ?_)
      · have hrf : (rt_things (rt_u fU k) 100 0 (fL0, 0)) = (q, fL, q) := by rw [← hgo]; exact by rw [rt_things_neg (fun z => ((rt_addok_iff hok (by omega) _).mp z).2.1 c_41)]
        have hq8 : q ≤ 8 := by
          have := ht8
          rw [hrf] at this
          exact this
        refine lv_aload_n hx hb d_Mo_parse_100 rfl (lv_at hl 0 rfl) ?_
        refine zz_get C hK hP fl_Mo_114 0 rfl rfl d_Mo_parse_101 ?_
        refine lv_if_ne (tgt := 109) hx hb d_Mo_parse_104 (by decide) (fun c_42 => ?_) (fun c_42 => ?_)
        · have hq0 : ¬ q = 0 := fun z => c_42 (by rw [z]; rfl)
          exact lp_Mo_pairs hk hL0 hN0 (fL := fL) (t := q) (by rw [hrf]) (by rw [hrf]) (by rw [hrf]; exact hq0) hok hq8 C hA hK hst 100 q fN0 bo (by omega) (by omega) (by rw [hrf]) _ _ ls hP hD hS (lv_sub hl [0, 1] rfl)
        · have hq0 : q = 0 := zz_nI0 c_42 (by omega)
          refine lv_iload_n hx hb d_Mo_parse_107 rfl (lv_at hl 1 rfl) ?_
          exact zz_reti C (rfl) hS (fL, fN0, q, bo) (⟨fL0, fN0, hL0, hN0, (by rw [hrf]), fun _ => (by rw [hq0]; rfl), fun z => absurd (by rw [hrf]; exact hq0) z⟩) hP hD d_Mo_parse_108
      · refine lv_aload_n hx hb d_Mo_parse_55 rfl (lv_at hl 0 rfl) ?_
        refine lv_aload_n hx hb d_Mo_parse_56 rfl (lv_at hl 0 rfl) ?_
        refine lv_iload_n hx hb d_Mo_parse_57 rfl (lv_at hl 1 rfl) ?_
        refine zz_goi (wr := [(z6, zI E 8 fL), (z7, zI E 8 fN0)]) [0, 1] [2, 3] rfl rfl (by decide) (by decide) hA hP hD hS (zz_runV (wc := [(y0, .inr (7, [v0, v1, v2, v3, v4, .int (nI k), .ref z5, v7, v8, v9, v10, v11, v12, v13, v14, v15, v16, .int (nI q), .int bo, .ref z6, .ref z7, v21, v22, v23, v24, v25, v26, v27])), (z5, zI E 100 fU)]) (As := [.int (nI q)]) (rest := [.ref y0]) C (c_Mo_byteAt l E y0 v0 v1 v2 v3 v4 v7 v8 v9 v10 v11 v12 v13 v14 v15 v16 (.int (nI q)) (.int bo) (.ref z6) (.ref z7) v21 v22 v23 v24 v25 v26 v27 z5 k q fU hk (by omega)) ym_Mo_byteAt wd_ml_Mo_117 wd_im_Mo_byteAt wd_se_Mo_byteAt [0, 1] (by decide) rfl hA hK hst hP hD hS (ci := 7) (q0 := 0) rfl rfl rfl rfl hl.1 rfl (Nat.le_of_ble_eq_true rfl) ⟨Nat.le_of_ble_eq_true rfl, Nat.le_of_ble_eq_true rfl⟩ ⟨Nat.le_of_ble_eq_true rfl, Nat.le_of_ble_eq_true rfl⟩ d_Mo_parse_58) (fun r_43 u H locs hwb hP hD hS => ?_)
        have hP : va_P E.1 vwCl [(z6, zI E 8 fL), (z7, zI E 8 fN0), (y0, .inr (7, [v0, v1, v2, v3, v4, .int (nI k), .ref z5, v7, v8, v9, v10, v11, v12, v13, v14, v15, v16, .int (nI q), .int bo, .ref z6, .ref z7, v21, v22, v23, v24, v25, v26, v27])), (z5, zI E 100 fU)] H := hP
        have hD : va_D A [(z6, zI E 8 fL), (z7, zI E 8 fN0), (y0, .inr (7, [v0, v1, v2, v3, v4, .int (nI k), .ref z5, v7, v8, v9, v10, v11, v12, v13, v14, v15, v16, .int (nI q), .int bo, .ref z6, .ref z7, v21, v22, v23, v24, v25, v26, v27])), (z5, zI E 100 fU)] := hD
        subst hwb
        have hP := hP.sub (ws' := [(y0, .inr (7, [v0, v1, v2, v3, v4, .int (nI k), .ref z5, v7, v8, v9, v10, v11, v12, v13, v14, v15, v16, .int (nI q), .int bo, .ref z6, .ref z7, v21, v22, v23, v24, v25, v26, v27])), (z5, zI E 100 fU), (z6, zI E 8 fL), (z7, zI E 8 fN0)]) [2, 3, 0, 1] rfl
        have hD := hD.sub (ws' := [(y0, .inr (7, [v0, v1, v2, v3, v4, .int (nI k), .ref z5, v7, v8, v9, v10, v11, v12, v13, v14, v15, v16, .int (nI q), .int bo, .ref z6, .ref z7, v21, v22, v23, v24, v25, v26, v27])), (z5, zI E 100 fU), (z6, zI E 8 fL), (z7, zI E 8 fN0)]) [2, 3, 0, 1] (by decide) rfl
        refine zz_goi (wr := [(z5, zI E 100 fU), (z7, zI E 8 fN0)]) [0, 2] [1, 3] rfl rfl (by decide) (by decide) hA hP hD hS (zz_runV (wc := [(y0, .inr (7, [v0, v1, v2, v3, v4, .int (nI k), .ref z5, v7, v8, v9, v10, v11, v12, v13, v14, v15, v16, .int (nI q), .int bo, .ref z6, .ref z7, v21, v22, v23, v24, v25, v26, v27])), (z6, zI E 8 fL)]) (As := [.int (rt_u fU k q)]) (rest := []) C (c_Mo_thingOf l E y0 v0 v1 v2 v3 v4 (.int (nI k)) (.ref z5) v7 v8 v9 v10 v11 v12 v13 v14 v15 v16 (.int (nI q)) (.int bo) (.ref z7) v21 v22 v23 v24 v25 v26 v27 z6 fL (rt_u fU k q)) ym_Mo_thingOf wd_ml_Mo_120 wd_im_Mo_thingOf wd_se_Mo_thingOf [0, 2] (by decide) rfl hA hK hst hP hD hS (ci := 7) (q0 := 0) rfl rfl rfl rfl hl.1 rfl (Nat.le_of_ble_eq_true rfl) ⟨Nat.le_of_ble_eq_true rfl, Nat.le_of_ble_eq_true rfl⟩ ⟨Nat.le_of_ble_eq_true rfl, Nat.le_of_ble_eq_true rfl⟩ d_Mo_parse_61) (fun r_44 u H locs hwt hP hD hS => ?_)
        have hP : va_P E.1 vwCl [(z5, zI E 100 fU), (z7, zI E 8 fN0), (y0, .inr (7, [v0, v1, v2, v3, v4, .int (nI k), .ref z5, v7, v8, v9, v10, v11, v12, v13, v14, v15, v16, .int (nI q), .int bo, .ref z6, .ref z7, v21, v22, v23, v24, v25, v26, v27])), (z6, zI E 8 fL)] H := hP
        have hD : va_D A [(z5, zI E 100 fU), (z7, zI E 8 fN0), (y0, .inr (7, [v0, v1, v2, v3, v4, .int (nI k), .ref z5, v7, v8, v9, v10, v11, v12, v13, v14, v15, v16, .int (nI q), .int bo, .ref z6, .ref z7, v21, v22, v23, v24, v25, v26, v27])), (z6, zI E 8 fL)] := hD
        subst hwt
        have hP := hP.sub (ws' := [(y0, .inr (7, [v0, v1, v2, v3, v4, .int (nI k), .ref z5, v7, v8, v9, v10, v11, v12, v13, v14, v15, v16, .int (nI q), .int bo, .ref z6, .ref z7, v21, v22, v23, v24, v25, v26, v27])), (z5, zI E 100 fU), (z6, zI E 8 fL), (z7, zI E 8 fN0)]) [2, 0, 3, 1] rfl
        have hD := hD.sub (ws' := [(y0, .inr (7, [v0, v1, v2, v3, v4, .int (nI k), .ref z5, v7, v8, v9, v10, v11, v12, v13, v14, v15, v16, .int (nI q), .int bo, .ref z6, .ref z7, v21, v22, v23, v24, v25, v26, v27])), (z5, zI E 100 fU), (z6, zI E 8 fL), (z7, zI E 8 fN0)]) [2, 0, 3, 1] (by decide) rfl
        refine lv_if_ge (tgt := 100) hx hb d_Mo_parse_64 (by decide) (fun c_45 => ?_) (fun c_45 => ?_)
        · have hrf : (rt_things (rt_u fU k) 100 0 (fL0, 0)) = (q, fL, q) := by rw [← hgo]; exact by rw [rt_things_neg (fun z => absurd ((rt_addok_iff hok (by omega) _).mp z).2.2 (fun y => zz_nle y c_45))]
          have hq8 : q ≤ 8 := by
            have := ht8
            rw [hrf] at this
            exact this
          refine lv_aload_n hx hb d_Mo_parse_100 rfl (lv_at hl 0 rfl) ?_
          refine zz_get C hK hP fl_Mo_114 0 rfl rfl d_Mo_parse_101 ?_
          refine lv_if_ne (tgt := 109) hx hb d_Mo_parse_104 (by decide) (fun c_46 => ?_) (fun c_46 => ?_)
          · have hq0 : ¬ q = 0 := fun z => c_46 (by rw [z]; rfl)
            exact lp_Mo_pairs hk hL0 hN0 (fL := fL) (t := q) (by rw [hrf]) (by rw [hrf]) (by rw [hrf]; exact hq0) hok hq8 C hA hK hst 100 q fN0 bo (by omega) (by omega) (by rw [hrf]) _ _ ls hP hD hS (lv_sub hl [0, 1] rfl)
          · have hq0 : q = 0 := zz_nI0 c_46 (by omega)
            refine lv_iload_n hx hb d_Mo_parse_107 rfl (lv_at hl 1 rfl) ?_
            exact zz_reti C (rfl) hS (fL, fN0, q, bo) (⟨fL0, fN0, hL0, hN0, (by rw [hrf]), fun _ => (by rw [hq0]; rfl), fun z => absurd (by rw [hrf]; exact hq0) z⟩) hP hD d_Mo_parse_108
        · have hadd : rv_addok fL (rt_u fU k q) := (rt_addok_iff hok (by omega) _).mpr ⟨c_38, c_41, zz_lt0 c_45⟩
          refine lv_aload_n hx hb d_Mo_parse_67 rfl (lv_at hl 0 rfl) ?_
          refine zz_get C hK hP fl_Mo_47 0 rfl rfl d_Mo_parse_68 ?_
          refine lv_aload_n hx hb d_Mo_parse_71 rfl (lv_at hl 0 rfl) ?_
          refine lv_iload_n hx hb d_Mo_parse_72 rfl (lv_at hl 1 rfl) ?_
          refine zz_goi (wr := [(z6, zI E 8 fL), (z7, zI E 8 fN0)]) [0, 1] [2, 3] rfl rfl (by decide) (by decide) hA hP hD hS (zz_runV (wc := [(y0, .inr (7, [v0, v1, v2, v3, v4, .int (nI k), .ref z5, v7, v8, v9, v10, v11, v12, v13, v14, v15, v16, .int (nI q), .int bo, .ref z6, .ref z7, v21, v22, v23, v24, v25, v26, v27])), (z5, zI E 100 fU)]) (As := [.int (nI q)]) (rest := [.ref z6]) C (c_Mo_byteAt l E y0 v0 v1 v2 v3 v4 v7 v8 v9 v10 v11 v12 v13 v14 v15 v16 (.int (nI q)) (.int bo) (.ref z6) (.ref z7) v21 v22 v23 v24 v25 v26 v27 z5 k q fU hk (by omega)) ym_Mo_byteAt wd_ml_Mo_117 wd_im_Mo_byteAt wd_se_Mo_byteAt [0, 1] (by decide) rfl hA hK hst hP hD hS (ci := 7) (q0 := 0) rfl rfl rfl rfl hl.1 rfl (Nat.le_of_ble_eq_true rfl) ⟨Nat.le_of_ble_eq_true rfl, Nat.le_of_ble_eq_true rfl⟩ ⟨Nat.le_of_ble_eq_true rfl, Nat.le_of_ble_eq_true rfl⟩ d_Mo_parse_73) (fun r_47 u H locs hwb hP hD hS => ?_)
          have hP : va_P E.1 vwCl [(z6, zI E 8 fL), (z7, zI E 8 fN0), (y0, .inr (7, [v0, v1, v2, v3, v4, .int (nI k), .ref z5, v7, v8, v9, v10, v11, v12, v13, v14, v15, v16, .int (nI q), .int bo, .ref z6, .ref z7, v21, v22, v23, v24, v25, v26, v27])), (z5, zI E 100 fU)] H := hP
          have hD : va_D A [(z6, zI E 8 fL), (z7, zI E 8 fN0), (y0, .inr (7, [v0, v1, v2, v3, v4, .int (nI k), .ref z5, v7, v8, v9, v10, v11, v12, v13, v14, v15, v16, .int (nI q), .int bo, .ref z6, .ref z7, v21, v22, v23, v24, v25, v26, v27])), (z5, zI E 100 fU)] := hD
          subst hwb
          have hP := hP.sub (ws' := [(y0, .inr (7, [v0, v1, v2, v3, v4, .int (nI k), .ref z5, v7, v8, v9, v10, v11, v12, v13, v14, v15, v16, .int (nI q), .int bo, .ref z6, .ref z7, v21, v22, v23, v24, v25, v26, v27])), (z5, zI E 100 fU), (z6, zI E 8 fL), (z7, zI E 8 fN0)]) [2, 3, 0, 1] rfl
          have hD := hD.sub (ws' := [(y0, .inr (7, [v0, v1, v2, v3, v4, .int (nI k), .ref z5, v7, v8, v9, v10, v11, v12, v13, v14, v15, v16, .int (nI q), .int bo, .ref z6, .ref z7, v21, v22, v23, v24, v25, v26, v27])), (z5, zI E 100 fU), (z6, zI E 8 fL), (z7, zI E 8 fN0)]) [2, 3, 0, 1] (by decide) rfl
          refine lv_bipush (v := 97) hx hb d_Mo_parse_76 (by decide) ?_
          refine lv_isub hx hb d_Mo_parse_78 ?_
          refine lv_aload_n hx hb d_Mo_parse_79 rfl (lv_at hl 0 rfl) ?_
          refine zz_get C hK hP fl_Mo_114 0 rfl rfl d_Mo_parse_80 ?_
          refine zz_iast C hK hP hD hS 2 rfl (rv_vp8 hadd.1 hadd.2.1) d_Mo_parse_83 (fun H locs hP hD hS => ?_)
          have hP : va_P E.1 vwCl [(y0, .inr (7, [v0, v1, v2, v3, v4, .int (nI k), .ref z5, v7, v8, v9, v10, v11, v12, v13, v14, v15, v16, .int (nI q), .int bo, .ref z6, .ref z7, v21, v22, v23, v24, v25, v26, v27])), (z5, zI E 100 fU), (z6, zI E 8 (upd fL ((rt_u fU k q) - 97).toNatClampNeg (nI q))), (z7, zI E 8 fN0)] H := hP
          have hD : va_D A [(y0, .inr (7, [v0, v1, v2, v3, v4, .int (nI k), .ref z5, v7, v8, v9, v10, v11, v12, v13, v14, v15, v16, .int (nI q), .int bo, .ref z6, .ref z7, v21, v22, v23, v24, v25, v26, v27])), (z5, zI E 100 fU), (z6, zI E 8 (upd fL ((rt_u fU k q) - 97).toNatClampNeg (nI q))), (z7, zI E 8 fN0)] := hD
          refine lv_aload_n hx hb d_Mo_parse_84 rfl (lv_at hl 0 rfl) ?_
          refine lv_dup hx hb d_Mo_parse_85 rfl ?_
          refine zz_get C hK hP fl_Mo_114 0 rfl rfl d_Mo_parse_86 ?_
          refine lv_iconst (v := 1) hx hb d_Mo_parse_89 (by decide) ?_
          refine lv_iadd hx hb d_Mo_parse_90 ?_
          refine zz_eqi (y := nI (q + 1)) (nI_1 _) ?_
          refine zz_put C hK hP hD hS fl_Mo_114 0 rfl rfl rfl (Nat.le_of_ble_eq_true rfl) d_Mo_parse_91 (fun H locs hP hD hS => ?_)
          have hP : va_P E.1 vwCl [(y0, .inr (7, [v0, v1, v2, v3, v4, .int (nI k), .ref z5, v7, v8, v9, v10, v11, v12, v13, v14, v15, v16, .int (nI (q + 1)), .int bo, .ref z6, .ref z7, v21, v22, v23, v24, v25, v26, v27])), (z5, zI E 100 fU), (z6, zI E 8 (upd fL ((rt_u fU k q) - 97).toNatClampNeg (nI q))), (z7, zI E 8 fN0)] H := hP
          have hD : va_D A [(y0, .inr (7, [v0, v1, v2, v3, v4, .int (nI k), .ref z5, v7, v8, v9, v10, v11, v12, v13, v14, v15, v16, .int (nI (q + 1)), .int bo, .ref z6, .ref z7, v21, v22, v23, v24, v25, v26, v27])), (z5, zI E 100 fU), (z6, zI E 8 (upd fL ((rt_u fU k q) - 97).toNatClampNeg (nI q))), (z7, zI E 8 fN0)] := hD
          refine lv_iinc (v := nI (q + 1)) (lv' := [(1, .int (nI (q + 1))), (0, .ref y0)]) hx hb d_Mo_parse_94 hl (k := 1) rfl (nI_1 _) (by decide) rfl (fun ls hl => ?_)
          refine lv_goto (tgt := 35) hx hb d_Mo_parse_97 (by decide) ?_
          exact ih (q + 1) (upd fL (rt_u fU k q - 97).toNatClampNeg (nI q)) (by omega) (rt_ok_upd hok) (by rw [← hgo, rt_things_pos (S := (fL, q)) hadd]) _ _ ls hP hD hS (lv_sub hl [1, 0] rfl)

set_option maxHeartbeats 4000000 in
set_option maxRecDepth 100000 in
theorem lp_Mo_parse0 {p : Program} {l : Launch} {e : Env} {s : State} {m : MethodId} {below : List Frame} {meth : Method} {c : Code} {A : Nat → Prop}  {E : zG} {y0 : Nat} {v0 v1 v2 v3 v4 v7 v8 v9 v10 v11 v12 v13 v14 v15 v16 v21 v22 v23 v24 v25 v26 v27 : Value} {z5 z6 z7 k : Nat} {fU : Nat → Int32} {bo : Int32} (hk : k ≤ 100) (C : cx p s m #[.ref y0] meth c b_Mo_parse 4 y_Mo_parse.cls (some .int)) (hA : ∀ q, s.heap.size ≤ q → A q) (hK : kt E s) (hst : stt A s s.heap) :
    ∀ (f i : Nat) (g1 g2 : Nat → Int32) (_ : i + f = 8) (_ : ∀ j, j < i → g1 j = -1) (_ : ∀ j, j < i → g2 j = 0) (H : Heap) (locs : List Loc) (ls : Array Slot), va_P E.1 vwCl [(y0, .inr (7, [v0, v1, v2, v3, v4, .int (nI k), .ref z5, v7, v8, v9, v10, v11, v12, v13, v14, v15, v16, .int 0, .int bo, .ref z6, .ref z7, v21, v22, v23, v24, v25, v26, v27])), (z5, zI E 100 fU), (z6, zI E 8 g1), (z7, zI E 8 g2)] H → va_D A [(y0, .inr (7, [v0, v1, v2, v3, v4, .int (nI k), .ref z5, v7, v8, v9, v10, v11, v12, v13, v14, v15, v16, .int 0, .int bo, .ref z6, .ref z7, v21, v22, v23, v24, v25, v26, v27])), (z5, zI E 100 fU), (z6, zI E 8 g1), (z7, zI E 8 g2)] → va_S A s.heap H locs → lv_has ls 4 [(0, .ref y0), (1, .int (nI i))] → W p l e (zR 1 21 0 0) s m #[.ref y0] below meth c H locs 0 0 (MQ below ((zQi E (S := (Nat → Int32) × (Nat → Int32) × Nat × Int32) (fun r u => ∃ fL0 fN0 : Nat → Int32, (∀ j, j < 8 → fL0 j = -1) ∧ (∀ j, j < 8 → fN0 j = 0) ∧ u.2.2.1 = (rt_things (rt_u fU k) 100 0 (fL0, 0)).2.2 ∧ ((rt_things (rt_u fU k) 100 0 (fL0, 0)).1 = 0 → r = 0) ∧ (¬ (rt_things (rt_u fU k) 100 0 (fL0, 0)).1 = 0 → r = (rt_pairs (rt_u fU k) k (rt_things (rt_u fU k) 100 0 (fL0, 0)).2.1 u.2.2.1 100 (rt_things (rt_u fU k) 100 0 (fL0, 0)).1 (fN0, 0)).1 ∧ u.2.1 = (rt_pairs (rt_u fU k) k (rt_things (rt_u fU k) 100 0 (fL0, 0)).2.1 u.2.2.1 100 (rt_things (rt_u fU k) 100 0 (fL0, 0)).1 (fN0, 0)).2.1 ∧ (r = -1 → u.2.2.2 = (rt_pairs (rt_u fU k) k (rt_things (rt_u fU k) 100 0 (fL0, 0)).2.1 u.2.2.1 100 (rt_things (rt_u fU k) 100 0 (fL0, 0)).1 (fN0, 0)).2.2))) (fun u => [(y0, .inr (7, [v0, v1, v2, v3, v4, .int (nI k), .ref z5, v7, v8, v9, v10, v11, v12, v13, v14, v15, v16, .int (nI u.2.2.1), .int u.2.2.2, .ref z6, .ref z7, v21, v22, v23, v24, v25, v26, v27])), (z5, zI E 100 fU), (z6, zI E 8 u.1), (z7, zI E 8 u.2.1)])) A) #[.ref y0] s 0 0 A) (F0 m 7 ls []) := by
  obtain ⟨hx, hb, hr, hml, hown, hts, hlk⟩ := id C
  intro f
  induction f with
  | zero =>
    intro i g1 g2 hi h1 h2 H locs ls hP hD hS hl
    have hi : i = 8 := by omega
    subst hi
    refine lv_iload_n hx hb d_Mo_parse_7 rfl (lv_at hl 1 rfl) ?_
    refine lv_bipush (v := 8) hx hb d_Mo_parse_8 (by decide) ?_
    refine lv_icmp_ge (tgt := 33) hx hb d_Mo_parse_10 (by decide) (fun c_48 => ?_) (fun c_48 => ?_)
    · refine lv_iconst (v := 0) hx hb d_Mo_parse_33 (by decide) ?_
      refine zz_eqi (y := nI 0) (rfl) ?_
      refine lv_istore_n (lv' := [(1, .int (nI 0)), (0, .ref y0)]) hx hb d_Mo_parse_34 rfl hl (by decide) rfl (fun ls hl => ?_)
      have hP : va_P E.1 vwCl [(y0, .inr (7, [v0, v1, v2, v3, v4, .int (nI k), .ref z5, v7, v8, v9, v10, v11, v12, v13, v14, v15, v16, .int (nI 0), .int bo, .ref z6, .ref z7, v21, v22, v23, v24, v25, v26, v27])), (z5, zI E 100 fU), (z6, zI E 8 g1), (z7, zI E 8 g2)] H := hP
      have hD : va_D A [(y0, .inr (7, [v0, v1, v2, v3, v4, .int (nI k), .ref z5, v7, v8, v9, v10, v11, v12, v13, v14, v15, v16, .int (nI 0), .int bo, .ref z6, .ref z7, v21, v22, v23, v24, v25, v26, v27])), (z5, zI E 100 fU), (z6, zI E 8 g1), (z7, zI E 8 g2)] := hD
      exact lp_Mo_things hk h1 h2 C hA hK hst 100 0 g1 (by omega) (fun j hj => Or.inl (h1 j hj)) rfl _ _ ls hP hD hS (lv_sub hl [1, 0] rfl)
    · exact absurd (nI_le (b := 8) (Nat.le_refl _) (by decide)) c_48
  | succ f ih =>
    intro i g1 g2 hi h1 h2 H locs ls hP hD hS hl
    refine lv_iload_n hx hb d_Mo_parse_7 rfl (lv_at hl 1 rfl) ?_
    refine lv_bipush (v := 8) hx hb d_Mo_parse_8 (by decide) ?_
    refine lv_icmp_ge (tgt := 33) hx hb d_Mo_parse_10 (by decide) (fun c_49 => ?_) (fun c_49 => ?_)
    · exact absurd c_49 (nI_ge (b := 8) (by omega) (by decide))
    · refine lv_aload_n hx hb d_Mo_parse_13 rfl (lv_at hl 0 rfl) ?_
      refine zz_get C hK hP fl_Mo_47 0 rfl rfl d_Mo_parse_14 ?_
      refine lv_iload_n hx hb d_Mo_parse_17 rfl (lv_at hl 1 rfl) ?_
      refine lv_iconst (v := (-1)) hx hb d_Mo_parse_18 (by decide) ?_
      refine zz_iastN C hK hP hD hS 2 rfl (j := i) (by omega) (by omega) d_Mo_parse_19 (fun H locs hP hD hS => ?_)
      have hP : va_P E.1 vwCl [(y0, .inr (7, [v0, v1, v2, v3, v4, .int (nI k), .ref z5, v7, v8, v9, v10, v11, v12, v13, v14, v15, v16, .int 0, .int bo, .ref z6, .ref z7, v21, v22, v23, v24, v25, v26, v27])), (z5, zI E 100 fU), (z6, zI E 8 (upd g1 i (-1))), (z7, zI E 8 g2)] H := hP
      have hD : va_D A [(y0, .inr (7, [v0, v1, v2, v3, v4, .int (nI k), .ref z5, v7, v8, v9, v10, v11, v12, v13, v14, v15, v16, .int 0, .int bo, .ref z6, .ref z7, v21, v22, v23, v24, v25, v26, v27])), (z5, zI E 100 fU), (z6, zI E 8 (upd g1 i (-1))), (z7, zI E 8 g2)] := hD
      refine lv_aload_n hx hb d_Mo_parse_20 rfl (lv_at hl 0 rfl) ?_
      refine zz_get C hK hP fl_Mo_50 0 rfl rfl d_Mo_parse_21 ?_
      refine lv_iload_n hx hb d_Mo_parse_24 rfl (lv_at hl 1 rfl) ?_
      refine lv_iconst (v := 0) hx hb d_Mo_parse_25 (by decide) ?_
      refine zz_iastN C hK hP hD hS 3 rfl (j := i) (by omega) (by omega) d_Mo_parse_26 (fun H locs hP hD hS => ?_)
      have hP : va_P E.1 vwCl [(y0, .inr (7, [v0, v1, v2, v3, v4, .int (nI k), .ref z5, v7, v8, v9, v10, v11, v12, v13, v14, v15, v16, .int 0, .int bo, .ref z6, .ref z7, v21, v22, v23, v24, v25, v26, v27])), (z5, zI E 100 fU), (z6, zI E 8 (upd g1 i (-1))), (z7, zI E 8 (upd g2 i 0))] H := hP
      have hD : va_D A [(y0, .inr (7, [v0, v1, v2, v3, v4, .int (nI k), .ref z5, v7, v8, v9, v10, v11, v12, v13, v14, v15, v16, .int 0, .int bo, .ref z6, .ref z7, v21, v22, v23, v24, v25, v26, v27])), (z5, zI E 100 fU), (z6, zI E 8 (upd g1 i (-1))), (z7, zI E 8 (upd g2 i 0))] := hD
      refine lv_iinc (v := nI (i + 1)) (lv' := [(1, .int (nI (i + 1))), (0, .ref y0)]) hx hb d_Mo_parse_27 hl (k := 1) rfl (nI_1 _) (by decide) rfl (fun ls hl => ?_)
      refine lv_goto (tgt := 7) hx hb d_Mo_parse_30 (by decide) ?_
      exact ih (i + 1) (upd g1 i (-1)) (upd g2 i 0) (by omega) (fun j hj => by
                  by_cases e : j = i
                  · subst e; exact pk_us
                  · rw [pk_un e]; exact h1 j (by omega)) (fun j hj => by
                  by_cases e : j = i
                  · subst e; exact pk_us
                  · rw [pk_un e]; exact h2 j (by omega)) _ _ ls hP hD hS (lv_sub hl [1, 0] rfl)

set_option maxHeartbeats 4000000 in
set_option maxRecDepth 100000 in
theorem c_Mo_parse (l : Launch) (E : zG) (y0 : Nat) (v0 v1 v2 v3 v4 v7 v8 v9 v10 v11 v12 v13 v14 v15 v16 v21 v22 v23 v24 v25 v26 v27 : Value) (z5 z6 z7 k : Nat) (fU fL fN : Nat → Int32) (tt bo : Int32) (hk : k ≤ 100) : zMet l y_Mo_parse b_Mo_parse 4 (some .int) 1 21 0 0 E [.ref y0] [(y0, .inr (7, [v0, v1, v2, v3, v4, .int (nI k), .ref z5, v7, v8, v9, v10, v11, v12, v13, v14, v15, v16, .int tt, .int bo, .ref z6, .ref z7, v21, v22, v23, v24, v25, v26, v27])), (z5, zI E 100 fU), (z6, zI E 8 fL), (z7, zI E 8 fN)] (zQi E (S := (Nat → Int32) × (Nat → Int32) × Nat × Int32) (fun r u => ∃ fL0 fN0 : Nat → Int32, (∀ j, j < 8 → fL0 j = -1) ∧ (∀ j, j < 8 → fN0 j = 0) ∧ u.2.2.1 = (rt_things (rt_u fU k) 100 0 (fL0, 0)).2.2 ∧ ((rt_things (rt_u fU k) 100 0 (fL0, 0)).1 = 0 → r = 0) ∧ (¬ (rt_things (rt_u fU k) 100 0 (fL0, 0)).1 = 0 → r = (rt_pairs (rt_u fU k) k (rt_things (rt_u fU k) 100 0 (fL0, 0)).2.1 u.2.2.1 100 (rt_things (rt_u fU k) 100 0 (fL0, 0)).1 (fN0, 0)).1 ∧ u.2.1 = (rt_pairs (rt_u fU k) k (rt_things (rt_u fU k) 100 0 (fL0, 0)).2.1 u.2.2.1 100 (rt_things (rt_u fU k) 100 0 (fL0, 0)).1 (fN0, 0)).2.1 ∧ (r = -1 → u.2.2.2 = (rt_pairs (rt_u fU k) k (rt_things (rt_u fU k) 100 0 (fL0, 0)).2.1 u.2.2.1 100 (rt_things (rt_u fU k) 100 0 (fL0, 0)).1 (fN0, 0)).2.2))) (fun u => [(y0, .inr (7, [v0, v1, v2, v3, v4, .int (nI k), .ref z5, v7, v8, v9, v10, v11, v12, v13, v14, v15, v16, .int (nI u.2.2.1), .int u.2.2.2, .ref z6, .ref z7, v21, v22, v23, v24, v25, v26, v27])), (z5, zI E 100 fU), (z6, zI E 8 u.1), (z7, zI E 8 u.2.1)])) := by
  refine zz_met (by decide +kernel) (Nat.le_of_ble_eq_true rfl) ?_
  intro p e s m below meth c A ls C hin hA hK hst hP hD hl
  obtain ⟨hx, hb, hr, hml, hown, hts, hlk⟩ := id C
  have hS : va_S A s.heap s.heap [] := va_S.rf
  have hl : lv_has ls 4 [(0, .ref y0)] := hl
  refine lv_aload_n hx hb d_Mo_parse_0 rfl (lv_at hl 0 rfl) ?_
  refine lv_iconst (v := 0) hx hb d_Mo_parse_1 (by decide) ?_
  refine zz_put C hK hP hD hS fl_Mo_114 0 rfl rfl rfl (Nat.le_of_ble_eq_true rfl) d_Mo_parse_2 (fun H locs hP hD hS => ?_)
  have hP : va_P E.1 vwCl [(y0, .inr (7, [v0, v1, v2, v3, v4, .int (nI k), .ref z5, v7, v8, v9, v10, v11, v12, v13, v14, v15, v16, .int 0, .int bo, .ref z6, .ref z7, v21, v22, v23, v24, v25, v26, v27])), (z5, zI E 100 fU), (z6, zI E 8 fL), (z7, zI E 8 fN)] H := hP
  have hD : va_D A [(y0, .inr (7, [v0, v1, v2, v3, v4, .int (nI k), .ref z5, v7, v8, v9, v10, v11, v12, v13, v14, v15, v16, .int 0, .int bo, .ref z6, .ref z7, v21, v22, v23, v24, v25, v26, v27])), (z5, zI E 100 fU), (z6, zI E 8 fL), (z7, zI E 8 fN)] := hD
  refine lv_iconst (v := 0) hx hb d_Mo_parse_5 (by decide) ?_
  refine zz_eqi (y := nI 0) (rfl) ?_
  refine lv_istore_n (lv' := [(1, .int (nI 0)), (0, .ref y0)]) hx hb d_Mo_parse_6 rfl hl (by decide) rfl (fun ls hl => ?_)
  exact lp_Mo_parse0 hk C hA hK hst 8 0 fL fN (by omega) (fun j hj => absurd hj (Nat.not_lt_zero j)) (fun j hj => absurd hj (Nat.not_lt_zero j)) _ _ ls hP hD hS (lv_sub hl [1, 0] rfl)
