set_option maxHeartbeats 4000000 in
set_option maxRecDepth 100000 in
theorem c_Mo_three (l : Launch) (E : zG) (n : Nat) (hn : n < 63) : zMet l y_Mo_three b_Mo_three 1 (some .long) 0 0 0 0 E [.int (nI n)] [] (zQl E (S := Unit) (fun r _ => r = lN (2 ^ n - 1)) (fun _ => [])) := by
  refine zz_met (by decide +kernel) (Nat.le_of_ble_eq_true rfl) ?_
  intro p e s m below meth c A ls C hin hA hK hst hP hD hl
  obtain ⟨hx, hb, hr, hml, hown, hts, hlk⟩ := id C
  have hS : va_S A s.heap s.heap [] := va_S.rf
  have hl : lv_has ls 1 [(0, .int (nI n))] := hl
  refine lv_lconst (v := 1) hx hb d_Mo_three_0 (by decide) ?_
  refine lv_iload_n hx hb d_Mo_three_1 rfl (lv_at hl 0 rfl) ?_
  refine lv_lshl (v := 1 <<< ((nI n).toInt64 &&& 63)) hx hb d_Mo_three_2 (rfl) ?_
  refine lv_lconst (v := 1) hx hb d_Mo_three_3 (by decide) ?_
  refine lv_lsub hx hb d_Mo_three_4 ?_
  exact zz_retl C hS () (tw_th n hn) hP hD d_Mo_three_5

set_option maxHeartbeats 4000000 in
set_option maxRecDepth 100000 in
theorem lp_Mo_full {p : Program} {l : Launch} {e : Env} {s : State} {m : MethodId} {below : List Frame} {meth : Method} {c : Code} {A : Nat → Prop}  {E : zG} {n : Nat} (hn : n ≤ 60) (C : cx p s m #[.int (nI n)] meth c b_Mo_full 4 y_Mo_full.cls (some .long)) (hA : ∀ q, s.heap.size ≤ q → A q) (hK : kt E s) (hst : stt A s s.heap) :
    ∀ (f k : Nat) (_ : k + f = n) (H : Heap) (locs : List Loc) (ls : Array Slot), va_P E.1 vwCl [] H → va_D A [] → va_S A s.heap H locs → lv_has ls 4 [(0, .int (nI n)), (1, .long (lN (mo_full k))), (3, .int (nI k))] → W p l e (zR 0 0 0 0) s m #[.int (nI n)] below meth c H locs 0 0 (MQ below ((zQl E (S := Unit) (fun r _ => r = lN (rg n)) (fun _ => [])) A) #[.int (nI n)] s 0 0 A) (F0 m 4 ls []) := by
  obtain ⟨hx, hb, hr, hml, hown, hts, hlk⟩ := id C
  intro f
  induction f with
  | zero =>
    intro k hk H locs ls hP hD hS hl
    have hk : k = n := by omega
    subst hk
    refine lv_iload_n hx hb d_Mo_full_4 rfl (lv_at hl 2 rfl) ?_
    refine lv_iload_n hx hb d_Mo_full_5 rfl (lv_at hl 0 rfl) ?_
    refine lv_icmp_ge (tgt := 33) hx hb d_Mo_full_6 (by decide) (fun c_1 => ?_) (fun c_1 => ?_)
    · refine lv_lload_n hx hb d_Mo_full_33 rfl (lv_at hl 1 rfl) ?_
      exact zz_retl C hS () (by rw [mo_full_rg k (by omega)]) hP hD d_Mo_full_34
    · exact absurd (nI_le (Nat.le_refl _) (by omega)) c_1
  | succ f ih =>
    intro k hk H locs ls hP hD hS hl
    have hkn : k < n := by omega
    refine lv_iload_n hx hb d_Mo_full_4 rfl (lv_at hl 2 rfl) ?_
    refine lv_iload_n hx hb d_Mo_full_5 rfl (lv_at hl 0 rfl) ?_
    refine lv_icmp_ge (tgt := 33) hx hb d_Mo_full_6 (by decide) (fun c_2 => ?_) (fun c_2 => ?_)
    · exact absurd c_2 (nI_ge hkn (by omega))
    · refine lv_ldc2 (v := 2) hx hb hown (hts _ wk_Mo_66) d_Mo_full_9 ?_
      refine lv_lload_n hx hb d_Mo_full_12 rfl (lv_at hl 1 rfl) ?_
      refine lv_lmul hx hb d_Mo_full_13 ?_
      refine zz_eql (y := lN (2 * mo_full k)) (lN_mul 2 _) ?_
      refine lv_iload_n hx hb d_Mo_full_14 rfl (lv_at hl 2 rfl) ?_
      refine lv_iconst (v := 2) hx hb d_Mo_full_15 (by decide) ?_
      refine lv_irem hx hb d_Mo_full_16 (by decide) ?_
      refine zz_eqi (y := nI (k % 2)) (pk_rem (d := 2) (by omega) (by decide) (by decide)) ?_
      refine lv_if_ne (tgt := 24) hx hb d_Mo_full_17 (by decide) (fun c_3 => ?_) (fun c_3 => ?_)
      · have h2 : ¬ k % 2 = 0 := fun z => c_3 (by rw [z]; rfl)
        refine lv_lconst (v := 0) hx hb d_Mo_full_24 (by decide) ?_
        refine lv_ladd hx hb d_Mo_full_25 ?_
        refine zz_eql (y := lN (mo_full (k + 1))) ((lN_add _ 0).trans (by rw [mo_full, if_neg h2])) ?_
        refine lv_lstore_n (lv' := [(1, .long (lN (mo_full (k + 1)))), (0, .int (nI n)), (3, .int (nI k))]) hx hb d_Mo_full_26 rfl hl (by decide) rfl (fun ls hl => ?_)
        refine lv_iinc (v := nI (k + 1)) (lv' := [(3, .int (nI (k + 1))), (1, .long (lN (mo_full (k + 1)))), (0, .int (nI n))]) hx hb d_Mo_full_27 hl (k := 2) rfl (nI_1 _) (by decide) rfl (fun ls hl => ?_)
        refine lv_goto (tgt := 4) hx hb d_Mo_full_30 (by decide) ?_
        exact ih (k + 1) (by omega) _ _ ls hP hD hS (lv_sub hl [2, 1, 0] rfl)
      · have h2 : k % 2 = 0 := zz_nI0 c_3 (by omega)
        refine lv_lconst (v := 1) hx hb d_Mo_full_20 (by decide) ?_
        refine lv_goto (tgt := 25) hx hb d_Mo_full_21 (by decide) ?_
        refine lv_ladd hx hb d_Mo_full_25 ?_
        refine zz_eql (y := lN (mo_full (k + 1))) ((lN_add _ 1).trans (by rw [mo_full, if_pos h2])) ?_
        refine lv_lstore_n (lv' := [(1, .long (lN (mo_full (k + 1)))), (0, .int (nI n)), (3, .int (nI k))]) hx hb d_Mo_full_26 rfl hl (by decide) rfl (fun ls hl => ?_)
        refine lv_iinc (v := nI (k + 1)) (lv' := [(3, .int (nI (k + 1))), (1, .long (lN (mo_full (k + 1)))), (0, .int (nI n))]) hx hb d_Mo_full_27 hl (k := 2) rfl (nI_1 _) (by decide) rfl (fun ls hl => ?_)
        refine lv_goto (tgt := 4) hx hb d_Mo_full_30 (by decide) ?_
        exact ih (k + 1) (by omega) _ _ ls hP hD hS (lv_sub hl [2, 1, 0] rfl)

set_option maxHeartbeats 4000000 in
set_option maxRecDepth 100000 in
theorem c_Mo_full (l : Launch) (E : zG) (n : Nat) (hn : n ≤ 60) : zMet l y_Mo_full b_Mo_full 4 (some .long) 0 0 0 0 E [.int (nI n)] [] (zQl E (S := Unit) (fun r _ => r = lN (rg n)) (fun _ => [])) := by
  refine zz_met (by decide +kernel) (Nat.le_of_ble_eq_true rfl) ?_
  intro p e s m below meth c A ls C hin hA hK hst hP hD hl
  obtain ⟨hx, hb, hr, hml, hown, hts, hlk⟩ := id C
  have hS : va_S A s.heap s.heap [] := va_S.rf
  have hl : lv_has ls 4 [(0, .int (nI n))] := hl
  refine lv_lconst (v := 0) hx hb d_Mo_full_0 (by decide) ?_
  refine lv_lstore_n (lv' := [(1, .long 0), (0, .int (nI n))]) hx hb d_Mo_full_1 rfl hl (by decide) rfl (fun ls hl => ?_)
  refine lv_iconst (v := 0) hx hb d_Mo_full_2 (by decide) ?_
  refine lv_istore_n (lv' := [(3, .int 0), (1, .long 0), (0, .int (nI n))]) hx hb d_Mo_full_3 rfl hl (by decide) rfl (fun ls hl => ?_)
  have hl := lv_sub (l' := [(0, .int (nI n)), (1, .long (lN (mo_full 0))), (3, .int (nI 0))]) hl [2, 1, 0] (rfl)
  exact lp_Mo_full hn C hA hK hst n 0 (by omega) _ _ ls hP hD hS hl

set_option maxHeartbeats 4000000 in
set_option maxRecDepth 100000 in
theorem c_Mo_rings_bad (l : Launch) (E : zG) (y0 : Nat) (v1 v2 v3 v4 v5 v6 v7 v8 v9 v10 v11 v12 v13 v14 v15 v16 v17 v18 v19 v20 v21 v22 v23 v24 v25 v26 v27 : Value) (th : Int32) (x : Int32) (hb0 : x < 0 ∨ 60 < x) : zMet l y_Mo_rings b_Mo_rings 2 (some .long) 1 23 0 0 E [.ref y0, .int x] [(y0, .inr (7, [.int th, v1, v2, v3, v4, v5, v6, v7, v8, v9, v10, v11, v12, v13, v14, v15, v16, v17, v18, v19, v20, v21, v22, v23, v24, v25, v26, v27]))] (zQl E (S := Unit) (fun r _ => r = -1) (fun _ => [(y0, .inr (7, [.int 0, v1, v2, v3, v4, v5, v6, v7, v8, v9, v10, v11, v12, v13, v14, v15, v16, v17, v18, v19, v20, v21, v22, v23, v24, v25, v26, v27]))])) := by
  refine zz_met (by decide +kernel) (Nat.le_of_ble_eq_true rfl) ?_
  intro p e s m below meth c A ls C hin hA hK hst hP hD hl
  obtain ⟨hx, hb, hr, hml, hown, hts, hlk⟩ := id C
  have hS : va_S A s.heap s.heap [] := va_S.rf
  have hl : lv_has ls 2 [(0, .ref y0), (1, .int x)] := hl
  refine lv_aload_n hx hb d_Mo_rings_0 rfl (lv_at hl 0 rfl) ?_
  refine lv_iconst (v := 0) hx hb d_Mo_rings_1 (by decide) ?_
  refine zz_put C hK hP hD hS fl_Mo_72 0 rfl rfl rfl (Nat.le_of_ble_eq_true rfl) d_Mo_rings_2 (fun H locs hP hD hS => ?_)
  have hP : va_P E.1 vwCl [(y0, .inr (7, [.int 0, v1, v2, v3, v4, v5, v6, v7, v8, v9, v10, v11, v12, v13, v14, v15, v16, v17, v18, v19, v20, v21, v22, v23, v24, v25, v26, v27]))] H := hP
  have hD : va_D A [(y0, .inr (7, [.int 0, v1, v2, v3, v4, v5, v6, v7, v8, v9, v10, v11, v12, v13, v14, v15, v16, v17, v18, v19, v20, v21, v22, v23, v24, v25, v26, v27]))] := hD
  refine lv_iload_n hx hb d_Mo_rings_5 rfl (lv_at hl 1 rfl) ?_
  refine lv_if_lt (tgt := 15) hx hb d_Mo_rings_6 (by decide) (fun c_4 => ?_) (fun c_4 => ?_)
  · refine lv_ldc2 (v := (-1)) hx hb hown (hts _ wk_Mo_135) d_Mo_rings_15 ?_
    refine lv_goto (tgt := 25) hx hb d_Mo_rings_18 (by decide) ?_
    exact zz_retl C hS () (rfl) hP hD d_Mo_rings_25
  · refine lv_iload_n hx hb d_Mo_rings_9 rfl (lv_at hl 1 rfl) ?_
    refine lv_bipush (v := 60) hx hb d_Mo_rings_10 (by decide) ?_
    refine lv_icmp_le (tgt := 21) hx hb d_Mo_rings_12 (by decide) (fun c_5 => ?_) (fun c_5 => ?_)
    · exact absurd hb0 (fun h => h.elim c_4 (fun h => zz_nle h c_5))
    · refine lv_ldc2 (v := (-1)) hx hb hown (hts _ wk_Mo_135) d_Mo_rings_15 ?_
      refine lv_goto (tgt := 25) hx hb d_Mo_rings_18 (by decide) ?_
      exact zz_retl C hS () (rfl) hP hD d_Mo_rings_25

set_option maxHeartbeats 4000000 in
set_option maxRecDepth 100000 in
theorem c_Mo_rings_ok (l : Launch) (E : zG) (y0 : Nat) (v1 v2 v3 v4 v5 v6 v7 v8 v9 v10 v11 v12 v13 v14 v15 v16 v17 v18 v19 v20 v21 v22 v23 v24 v25 v26 v27 : Value) (th : Int32) (n : Nat) (hn : n ≤ 60) : zMet l y_Mo_rings b_Mo_rings 2 (some .long) 1 23 0 0 E [.ref y0, .int (nI n)] [(y0, .inr (7, [.int th, v1, v2, v3, v4, v5, v6, v7, v8, v9, v10, v11, v12, v13, v14, v15, v16, v17, v18, v19, v20, v21, v22, v23, v24, v25, v26, v27]))] (zQl E (S := Unit) (fun r _ => r = lN (rg n)) (fun _ => [(y0, .inr (7, [.int 0, v1, v2, v3, v4, v5, v6, v7, v8, v9, v10, v11, v12, v13, v14, v15, v16, v17, v18, v19, v20, v21, v22, v23, v24, v25, v26, v27]))])) := by
  refine zz_met (by decide +kernel) (Nat.le_of_ble_eq_true rfl) ?_
  intro p e s m below meth c A ls C hin hA hK hst hP hD hl
  obtain ⟨hx, hb, hr, hml, hown, hts, hlk⟩ := id C
  have hS : va_S A s.heap s.heap [] := va_S.rf
  have hl : lv_has ls 2 [(0, .ref y0), (1, .int (nI n))] := hl
  refine lv_aload_n hx hb d_Mo_rings_0 rfl (lv_at hl 0 rfl) ?_
  refine lv_iconst (v := 0) hx hb d_Mo_rings_1 (by decide) ?_
  refine zz_put C hK hP hD hS fl_Mo_72 0 rfl rfl rfl (Nat.le_of_ble_eq_true rfl) d_Mo_rings_2 (fun H locs hP hD hS => ?_)
  have hP : va_P E.1 vwCl [(y0, .inr (7, [.int 0, v1, v2, v3, v4, v5, v6, v7, v8, v9, v10, v11, v12, v13, v14, v15, v16, v17, v18, v19, v20, v21, v22, v23, v24, v25, v26, v27]))] H := hP
  have hD : va_D A [(y0, .inr (7, [.int 0, v1, v2, v3, v4, v5, v6, v7, v8, v9, v10, v11, v12, v13, v14, v15, v16, v17, v18, v19, v20, v21, v22, v23, v24, v25, v26, v27]))] := hD
  refine lv_iload_n hx hb d_Mo_rings_5 rfl (lv_at hl 1 rfl) ?_
  refine lv_if_lt (tgt := 15) hx hb d_Mo_rings_6 (by decide) (fun c_6 => ?_) (fun c_6 => ?_)
  · exact absurd c_6 (nI_pos (by omega))
  · refine lv_iload_n hx hb d_Mo_rings_9 rfl (lv_at hl 1 rfl) ?_
    refine lv_bipush (v := 60) hx hb d_Mo_rings_10 (by decide) ?_
    refine lv_icmp_le (tgt := 21) hx hb d_Mo_rings_12 (by decide) (fun c_7 => ?_) (fun c_7 => ?_)
    · refine lv_iload_n hx hb d_Mo_rings_21 rfl (lv_at hl 1 rfl) ?_
      refine zz_gol (wr := [(y0, .inr (7, [.int 0, v1, v2, v3, v4, v5, v6, v7, v8, v9, v10, v11, v12, v13, v14, v15, v16, v17, v18, v19, v20, v21, v22, v23, v24, v25, v26, v27]))]) [] [0] rfl rfl (by decide) (by decide) hA hP hD hS (zz_runS (wc := []) (As := [.int (nI n)]) (rest := []) C (c_Mo_full l E n hn) ym_Mo_full wd_ml_Mo_165 wd_st_Mo_full [] (by decide) rfl hA hK hst hP hD hS rfl hl.1 rfl (Nat.le_of_ble_eq_true rfl) ⟨Nat.le_of_ble_eq_true rfl, Nat.le_of_ble_eq_true rfl⟩ ⟨Nat.le_of_ble_eq_true rfl, Nat.le_of_ble_eq_true rfl⟩ d_Mo_rings_22) (fun r_8 u H locs hw hP hD hS => ?_)
      have hP : va_P E.1 vwCl [(y0, .inr (7, [.int 0, v1, v2, v3, v4, v5, v6, v7, v8, v9, v10, v11, v12, v13, v14, v15, v16, v17, v18, v19, v20, v21, v22, v23, v24, v25, v26, v27]))] H := hP
      have hD : va_D A [(y0, .inr (7, [.int 0, v1, v2, v3, v4, v5, v6, v7, v8, v9, v10, v11, v12, v13, v14, v15, v16, v17, v18, v19, v20, v21, v22, v23, v24, v25, v26, v27]))] := hD
      exact zz_retl C hS () (hw) hP hD d_Mo_rings_25
    · exact absurd (nI_le (b := 60) hn (by decide)) c_7

set_option maxHeartbeats 4000000 in
set_option maxRecDepth 100000 in
theorem c_Mo_ring_bad (l : Launch) (E : zG) (y0 : Nat) (v1 v2 v3 v4 v5 v6 v7 v8 v9 v10 v11 v12 v13 v14 v15 v16 v17 v18 v19 v20 v21 v22 v23 v24 v25 v26 v27 : Value) (th : Int32) (x : Int32) (sx : Int64) (hb0 : x < 0 ∨ 60 < x) : zMet l y_Mo_ring b_Mo_ring 6 (some .long) 1 23 0 0 E [.ref y0, .int x, .long sx] [(y0, .inr (7, [.int th, v1, v2, v3, v4, v5, v6, v7, v8, v9, v10, v11, v12, v13, v14, v15, v16, v17, v18, v19, v20, v21, v22, v23, v24, v25, v26, v27]))] (zQl E (S := Unit) (fun r _ => r = -1) (fun _ => [(y0, .inr (7, [.int 0, v1, v2, v3, v4, v5, v6, v7, v8, v9, v10, v11, v12, v13, v14, v15, v16, v17, v18, v19, v20, v21, v22, v23, v24, v25, v26, v27]))])) := by
  refine zz_met (by decide +kernel) (Nat.le_of_ble_eq_true rfl) ?_
  intro p e s m below meth c A ls C hin hA hK hst hP hD hl
  obtain ⟨hx, hb, hr, hml, hown, hts, hlk⟩ := id C
  have hS : va_S A s.heap s.heap [] := va_S.rf
  have hl : lv_has ls 6 [(0, .ref y0), (1, .int x), (2, .long sx)] := hl
  refine lv_aload_n hx hb d_Mo_ring_0 rfl (lv_at hl 0 rfl) ?_
  refine lv_iconst (v := 0) hx hb d_Mo_ring_1 (by decide) ?_
  refine zz_put C hK hP hD hS fl_Mo_72 0 rfl rfl rfl (Nat.le_of_ble_eq_true rfl) d_Mo_ring_2 (fun H locs hP hD hS => ?_)
  have hP : va_P E.1 vwCl [(y0, .inr (7, [.int 0, v1, v2, v3, v4, v5, v6, v7, v8, v9, v10, v11, v12, v13, v14, v15, v16, v17, v18, v19, v20, v21, v22, v23, v24, v25, v26, v27]))] H := hP
  have hD : va_D A [(y0, .inr (7, [.int 0, v1, v2, v3, v4, v5, v6, v7, v8, v9, v10, v11, v12, v13, v14, v15, v16, v17, v18, v19, v20, v21, v22, v23, v24, v25, v26, v27]))] := hD
  refine lv_iload_n hx hb d_Mo_ring_5 rfl (lv_at hl 1 rfl) ?_
  refine lv_if_lt (tgt := 30) hx hb d_Mo_ring_6 (by decide) (fun c_9 => ?_) (fun c_9 => ?_)
  · refine lv_ldc2 (v := (-1)) hx hb hown (hts _ wk_Mo_135) d_Mo_ring_30 ?_
    exact zz_retl C hS () (rfl) hP hD d_Mo_ring_33
  · refine lv_iload_n hx hb d_Mo_ring_9 rfl (lv_at hl 1 rfl) ?_
    refine lv_bipush (v := 60) hx hb d_Mo_ring_10 (by decide) ?_
    refine lv_icmp_gt (tgt := 30) hx hb d_Mo_ring_12 (by decide) (fun c_10 => ?_) (fun c_10 => ?_)
    · refine lv_ldc2 (v := (-1)) hx hb hown (hts _ wk_Mo_135) d_Mo_ring_30 ?_
      exact zz_retl C hS () (rfl) hP hD d_Mo_ring_33
    · exact absurd hb0 (fun h => h.elim c_9 (fun h => c_10 h))

set_option maxHeartbeats 4000000 in
set_option maxRecDepth 100000 in
theorem c_Mo_ring_neg (l : Launch) (E : zG) (y0 : Nat) (v1 v2 v3 v4 v5 v6 v7 v8 v9 v10 v11 v12 v13 v14 v15 v16 v17 v18 v19 v20 v21 v22 v23 v24 v25 v26 v27 : Value) (th : Int32) (n : Nat) (sx : Int64) (hn : n ≤ 60) (hs0 : sx < 0) : zMet l y_Mo_ring b_Mo_ring 6 (some .long) 1 23 0 0 E [.ref y0, .int (nI n), .long sx] [(y0, .inr (7, [.int th, v1, v2, v3, v4, v5, v6, v7, v8, v9, v10, v11, v12, v13, v14, v15, v16, v17, v18, v19, v20, v21, v22, v23, v24, v25, v26, v27]))] (zQl E (S := Unit) (fun r _ => r = -1) (fun _ => [(y0, .inr (7, [.int 0, v1, v2, v3, v4, v5, v6, v7, v8, v9, v10, v11, v12, v13, v14, v15, v16, v17, v18, v19, v20, v21, v22, v23, v24, v25, v26, v27]))])) := by
  refine zz_met (by decide +kernel) (Nat.le_of_ble_eq_true rfl) ?_
  intro p e s m below meth c A ls C hin hA hK hst hP hD hl
  obtain ⟨hx, hb, hr, hml, hown, hts, hlk⟩ := id C
  have hS : va_S A s.heap s.heap [] := va_S.rf
  have hl : lv_has ls 6 [(0, .ref y0), (1, .int (nI n)), (2, .long sx)] := hl
  refine lv_aload_n hx hb d_Mo_ring_0 rfl (lv_at hl 0 rfl) ?_
  refine lv_iconst (v := 0) hx hb d_Mo_ring_1 (by decide) ?_
  refine zz_put C hK hP hD hS fl_Mo_72 0 rfl rfl rfl (Nat.le_of_ble_eq_true rfl) d_Mo_ring_2 (fun H locs hP hD hS => ?_)
  have hP : va_P E.1 vwCl [(y0, .inr (7, [.int 0, v1, v2, v3, v4, v5, v6, v7, v8, v9, v10, v11, v12, v13, v14, v15, v16, v17, v18, v19, v20, v21, v22, v23, v24, v25, v26, v27]))] H := hP
  have hD : va_D A [(y0, .inr (7, [.int 0, v1, v2, v3, v4, v5, v6, v7, v8, v9, v10, v11, v12, v13, v14, v15, v16, v17, v18, v19, v20, v21, v22, v23, v24, v25, v26, v27]))] := hD
  refine lv_iload_n hx hb d_Mo_ring_5 rfl (lv_at hl 1 rfl) ?_
  refine lv_if_lt (tgt := 30) hx hb d_Mo_ring_6 (by decide) (fun c_11 => ?_) (fun c_11 => ?_)
  · exact absurd c_11 (nI_pos (by omega))
  · refine lv_iload_n hx hb d_Mo_ring_9 rfl (lv_at hl 1 rfl) ?_
    refine lv_bipush (v := 60) hx hb d_Mo_ring_10 (by decide) ?_
    refine lv_icmp_gt (tgt := 30) hx hb d_Mo_ring_12 (by decide) (fun c_12 => ?_) (fun c_12 => ?_)
    · exact absurd (nI_le (b := 60) hn (by decide)) (zz_nle c_12)
    · refine lv_lload_n hx hb d_Mo_ring_15 rfl (lv_at hl 2 rfl) ?_
      refine lv_lconst (v := 0) hx hb d_Mo_ring_16 (by decide) ?_
      refine W.lcmp hx hb d_Mo_ring_17 ?_
      refine lv_if_lt (tgt := 30) hx hb d_Mo_ring_18 (by decide) (fun c_13 => ?_) (fun c_13 => ?_)
      · refine lv_ldc2 (v := (-1)) hx hb hown (hts _ wk_Mo_135) d_Mo_ring_30 ?_
        exact zz_retl C hS () (rfl) hP hD d_Mo_ring_33
      · exact absurd ((lg_cmp_lt _ _).mpr hs0) c_13

set_option maxHeartbeats 4000000 in
set_option maxRecDepth 100000 in
theorem c_Mo_ring_pos (l : Launch) (E : zG) (y0 : Nat) (v1 v2 v3 v4 v5 v6 v7 v8 v9 v10 v11 v12 v13 v14 v15 v16 v17 v18 v19 v20 v21 v22 v23 v24 v25 v26 v27 : Value) (th : Int32) (n k : Nat) (hn : n ≤ 60) (hk : k < 9223372036854775808) : zMet l y_Mo_ring b_Mo_ring 6 (some .long) 1 23 0 0 E [.ref y0, .int (nI n), .long (lN k)] [(y0, .inr (7, [.int th, v1, v2, v3, v4, v5, v6, v7, v8, v9, v10, v11, v12, v13, v14, v15, v16, v17, v18, v19, v20, v21, v22, v23, v24, v25, v26, v27]))] (zQl E (S := Unit) (fun r _ => r = if k ≤ rg n then lN ((rg n - k) ^^^ ((rg n - k) / 2)) else -1) (fun _ => [(y0, .inr (7, [.int 0, v1, v2, v3, v4, v5, v6, v7, v8, v9, v10, v11, v12, v13, v14, v15, v16, v17, v18, v19, v20, v21, v22, v23, v24, v25, v26, v27]))])) := by
  refine zz_met (by decide +kernel) (Nat.le_of_ble_eq_true rfl) ?_
  intro p e s m below meth c A ls C hin hA hK hst hP hD hl
  obtain ⟨hx, hb, hr, hml, hown, hts, hlk⟩ := id C
  have hS : va_S A s.heap s.heap [] := va_S.rf
  have hl : lv_has ls 6 [(0, .ref y0), (1, .int (nI n)), (2, .long (lN k))] := hl
  have hrg := (rg_E n (by omega)).2
  refine lv_aload_n hx hb d_Mo_ring_0 rfl (lv_at hl 0 rfl) ?_
  refine lv_iconst (v := 0) hx hb d_Mo_ring_1 (by decide) ?_
  refine zz_put C hK hP hD hS fl_Mo_72 0 rfl rfl rfl (Nat.le_of_ble_eq_true rfl) d_Mo_ring_2 (fun H locs hP hD hS => ?_)
  have hP : va_P E.1 vwCl [(y0, .inr (7, [.int 0, v1, v2, v3, v4, v5, v6, v7, v8, v9, v10, v11, v12, v13, v14, v15, v16, v17, v18, v19, v20, v21, v22, v23, v24, v25, v26, v27]))] H := hP
  have hD : va_D A [(y0, .inr (7, [.int 0, v1, v2, v3, v4, v5, v6, v7, v8, v9, v10, v11, v12, v13, v14, v15, v16, v17, v18, v19, v20, v21, v22, v23, v24, v25, v26, v27]))] := hD
  refine lv_iload_n hx hb d_Mo_ring_5 rfl (lv_at hl 1 rfl) ?_
  refine lv_if_lt (tgt := 30) hx hb d_Mo_ring_6 (by decide) (fun c_14 => ?_) (fun c_14 => ?_)
  · exact absurd c_14 (nI_pos (by omega))
  · refine lv_iload_n hx hb d_Mo_ring_9 rfl (lv_at hl 1 rfl) ?_
    refine lv_bipush (v := 60) hx hb d_Mo_ring_10 (by decide) ?_
    refine lv_icmp_gt (tgt := 30) hx hb d_Mo_ring_12 (by decide) (fun c_15 => ?_) (fun c_15 => ?_)
    · exact absurd (nI_le (b := 60) hn (by decide)) (zz_nle c_15)
    · refine lv_lload_n hx hb d_Mo_ring_15 rfl (lv_at hl 2 rfl) ?_
      refine lv_lconst (v := 0) hx hb d_Mo_ring_16 (by decide) ?_
      refine W.lcmp hx hb d_Mo_ring_17 ?_
      refine lv_if_lt (tgt := 30) hx hb d_Mo_ring_18 (by decide) (fun c_16 => ?_) (fun c_16 => ?_)
      · exact absurd ((lg_cmp_lt _ _).mp c_16) (by rw [show (0 : Int64) = lN 0 from rfl, pk_lLT hk (by decide)]; exact Nat.not_lt_zero _)
      · refine lv_lload_n hx hb d_Mo_ring_21 rfl (lv_at hl 2 rfl) ?_
        refine lv_iload_n hx hb d_Mo_ring_22 rfl (lv_at hl 1 rfl) ?_
        refine zz_gol (wr := [(y0, .inr (7, [.int 0, v1, v2, v3, v4, v5, v6, v7, v8, v9, v10, v11, v12, v13, v14, v15, v16, v17, v18, v19, v20, v21, v22, v23, v24, v25, v26, v27]))]) [] [0] rfl rfl (by decide) (by decide) hA hP hD hS (zz_runS (wc := []) (As := [.int (nI n)]) (rest := [.long (lN k)]) C (c_Mo_full l E n hn) ym_Mo_full wd_ml_Mo_165 wd_st_Mo_full [] (by decide) rfl hA hK hst hP hD hS rfl hl.1 rfl (Nat.le_of_ble_eq_true rfl) ⟨Nat.le_of_ble_eq_true rfl, Nat.le_of_ble_eq_true rfl⟩ ⟨Nat.le_of_ble_eq_true rfl, Nat.le_of_ble_eq_true rfl⟩ d_Mo_ring_23) (fun r_17 u H locs hw hP hD hS => ?_)
        have hP : va_P E.1 vwCl [(y0, .inr (7, [.int 0, v1, v2, v3, v4, v5, v6, v7, v8, v9, v10, v11, v12, v13, v14, v15, v16, v17, v18, v19, v20, v21, v22, v23, v24, v25, v26, v27]))] H := hP
        have hD : va_D A [(y0, .inr (7, [.int 0, v1, v2, v3, v4, v5, v6, v7, v8, v9, v10, v11, v12, v13, v14, v15, v16, v17, v18, v19, v20, v21, v22, v23, v24, v25, v26, v27]))] := hD
        subst hw
        refine W.lcmp hx hb d_Mo_ring_26 ?_
        refine lv_if_le (tgt := 34) hx hb d_Mo_ring_27 (by decide) (fun c_18 => ?_) (fun c_18 => ?_)
        · have hle : k ≤ rg n := (pk_lLE hk (by omega)).mp ((lg_cmp_le _ _).mp c_18)
          refine lv_iload_n hx hb d_Mo_ring_34 rfl (lv_at hl 1 rfl) ?_
          refine zz_gol (wr := [(y0, .inr (7, [.int 0, v1, v2, v3, v4, v5, v6, v7, v8, v9, v10, v11, v12, v13, v14, v15, v16, v17, v18, v19, v20, v21, v22, v23, v24, v25, v26, v27]))]) [] [0] rfl rfl (by decide) (by decide) hA hP hD hS (zz_runS (wc := []) (As := [.int (nI n)]) (rest := []) C (c_Mo_full l E n hn) ym_Mo_full wd_ml_Mo_165 wd_st_Mo_full [] (by decide) rfl hA hK hst hP hD hS rfl hl.1 rfl (Nat.le_of_ble_eq_true rfl) ⟨Nat.le_of_ble_eq_true rfl, Nat.le_of_ble_eq_true rfl⟩ ⟨Nat.le_of_ble_eq_true rfl, Nat.le_of_ble_eq_true rfl⟩ d_Mo_ring_35) (fun r_19 u H locs hw hP hD hS => ?_)
          have hP : va_P E.1 vwCl [(y0, .inr (7, [.int 0, v1, v2, v3, v4, v5, v6, v7, v8, v9, v10, v11, v12, v13, v14, v15, v16, v17, v18, v19, v20, v21, v22, v23, v24, v25, v26, v27]))] H := hP
          have hD : va_D A [(y0, .inr (7, [.int 0, v1, v2, v3, v4, v5, v6, v7, v8, v9, v10, v11, v12, v13, v14, v15, v16, v17, v18, v19, v20, v21, v22, v23, v24, v25, v26, v27]))] := hD
          subst hw
          refine lv_lload_n hx hb d_Mo_ring_38 rfl (lv_at hl 2 rfl) ?_
          refine lv_lsub hx hb d_Mo_ring_39 ?_
          refine zz_eql (y := lN (rg n - k)) (lN_sub hle) ?_
          refine lv_lstore (lv' := [(4, .long (lN (rg n - k))), (0, .ref y0), (1, .int (nI n)), (2, .long (lN k))]) hx hb d_Mo_ring_40 hl (by decide) rfl (fun ls hl => ?_)
          refine lv_lload hx hb d_Mo_ring_42 (lv_at hl 0 rfl) ?_
          refine lv_lload hx hb d_Mo_ring_44 (lv_at hl 0 rfl) ?_
          refine lv_iconst (v := 1) hx hb d_Mo_ring_46 (by decide) ?_
          refine lv_lshr (v := (lN (rg n - k)) >>> ((1 : Int32).toInt64 &&& 63)) hx hb d_Mo_ring_47 (rfl) ?_
          refine lv_lxor hx hb d_Mo_ring_48 ?_
          refine zz_eql (y := lN ((rg n - k) ^^^ ((rg n - k) / 2))) (rg_gray (by omega)) ?_
          exact zz_retl C hS () (by rw [if_pos hle]) hP hD d_Mo_ring_49
        · have hgt : ¬ k ≤ rg n := fun z => c_18 ((lg_cmp_le _ _).mpr ((pk_lLE hk (by omega)).mpr z))
          refine lv_ldc2 (v := (-1)) hx hb hown (hts _ wk_Mo_135) d_Mo_ring_30 ?_
          exact zz_retl C hS () (by rw [if_neg hgt]) hP hD d_Mo_ring_33

set_option maxHeartbeats 4000000 in
set_option maxRecDepth 100000 in
theorem c_Mo_jug (l : Launch) (E : zG) (y0 : Nat) (v5 v6 v8 v9 v10 v11 v12 v13 v14 v15 v16 v17 v18 v19 v20 v21 v22 v23 v24 v25 v26 v27 : Value) (th : Int32) (z1 z2 z3 jc : Nat) (fS fF fW : Nat → Int32) (sp : Int32) (x y : Int32) (hc : jc ≤ 4) : zMet l y_Mo_jug b_Mo_jug 3 (some .int) 0 0 0 0 E [.ref y0, .int x, .int y] [(y0, .inr (7, [.int th, .int (nI jc), .ref z1, .ref z2, .ref z3, v5, v6, .int sp, v8, v9, v10, v11, v12, v13, v14, v15, v16, v17, v18, v19, v20, v21, v22, v23, v24, v25, v26, v27])), (z1, zI E 4 fS), (z2, zI E 4 fF), (z3, zI E 4 fW)] (zQi E (S := (Nat → Int32) × (Nat → Int32) × (Nat → Int32) × Nat × Int32) (fun r u => (¬ 4 ≤ nI jc ∧ ¬ x < 1 ∧ ¬ 9 < x ∧ ¬ y < 0 ∧ y ≤ x → r = nI jc ∧ u = (upd fS jc x, upd fF jc y, upd fW jc (-1), jc + 1, 0)) ∧ (¬ (¬ 4 ≤ nI jc ∧ ¬ x < 1 ∧ ¬ 9 < x ∧ ¬ y < 0 ∧ y ≤ x) → r = -1 ∧ u = (fS, fF, fW, jc, sp))) (fun u => [(y0, .inr (7, [.int 0, .int (nI u.2.2.2.1), .ref z1, .ref z2, .ref z3, v5, v6, .int u.2.2.2.2, v8, v9, v10, v11, v12, v13, v14, v15, v16, v17, v18, v19, v20, v21, v22, v23, v24, v25, v26, v27])), (z1, zI E 4 u.1), (z2, zI E 4 u.2.1), (z3, zI E 4 u.2.2.1)])) := by
  refine zz_met (by decide +kernel) (Nat.le_of_ble_eq_true rfl) ?_
  intro p e s m below meth c A ls C hin hA hK hst hP hD hl
  obtain ⟨hx, hb, hr, hml, hown, hts, hlk⟩ := id C
  have hS : va_S A s.heap s.heap [] := va_S.rf
  have hl : lv_has ls 3 [(0, .ref y0), (1, .int x), (2, .int y)] := hl
  refine lv_aload_n hx hb d_Mo_jug_0 rfl (lv_at hl 0 rfl) ?_
  refine lv_iconst (v := 0) hx hb d_Mo_jug_1 (by decide) ?_
  refine zz_put C hK hP hD hS fl_Mo_72 0 rfl rfl rfl (Nat.le_of_ble_eq_true rfl) d_Mo_jug_2 (fun H locs hP hD hS => ?_)
  have hP : va_P E.1 vwCl [(y0, .inr (7, [.int 0, .int (nI jc), .ref z1, .ref z2, .ref z3, v5, v6, .int sp, v8, v9, v10, v11, v12, v13, v14, v15, v16, v17, v18, v19, v20, v21, v22, v23, v24, v25, v26, v27])), (z1, zI E 4 fS), (z2, zI E 4 fF), (z3, zI E 4 fW)] H := hP
  have hD : va_D A [(y0, .inr (7, [.int 0, .int (nI jc), .ref z1, .ref z2, .ref z3, v5, v6, .int sp, v8, v9, v10, v11, v12, v13, v14, v15, v16, v17, v18, v19, v20, v21, v22, v23, v24, v25, v26, v27])), (z1, zI E 4 fS), (z2, zI E 4 fF), (z3, zI E 4 fW)] := hD
  refine lv_aload_n hx hb d_Mo_jug_5 rfl (lv_at hl 0 rfl) ?_
  refine zz_get C hK hP fl_Mo_75 0 rfl rfl d_Mo_jug_6 ?_
  refine lv_iconst (v := 4) hx hb d_Mo_jug_9 (by decide) ?_
  refine lv_icmp_eq (tgt := 33) hx hb d_Mo_jug_10 (by decide) (fun c_20 => ?_) (fun c_20 => ?_)
  · refine lv_iconst (v := (-1)) hx hb d_Mo_jug_33 (by decide) ?_
    exact zz_reti C (rfl) hS (fS, fF, fW, jc, sp) (⟨fun h => absurd h (by intro h; exact h.1 (by rw [c_20]; decide)), fun _ => ⟨rfl, rfl⟩⟩) hP hD d_Mo_jug_34
  · refine lv_iload_n hx hb d_Mo_jug_13 rfl (lv_at hl 1 rfl) ?_
    refine lv_iconst (v := 1) hx hb d_Mo_jug_14 (by decide) ?_
    refine lv_icmp_lt (tgt := 33) hx hb d_Mo_jug_15 (by decide) (fun c_21 => ?_) (fun c_21 => ?_)
    · refine lv_iconst (v := (-1)) hx hb d_Mo_jug_33 (by decide) ?_
      exact zz_reti C (rfl) hS (fS, fF, fW, jc, sp) (⟨fun h => absurd h (by intro h; exact h.2.1 c_21), fun _ => ⟨rfl, rfl⟩⟩) hP hD d_Mo_jug_34
    · refine lv_iload_n hx hb d_Mo_jug_18 rfl (lv_at hl 1 rfl) ?_
      refine lv_bipush (v := 9) hx hb d_Mo_jug_19 (by decide) ?_
      refine lv_icmp_gt (tgt := 33) hx hb d_Mo_jug_21 (by decide) (fun c_22 => ?_) (fun c_22 => ?_)
      · refine lv_iconst (v := (-1)) hx hb d_Mo_jug_33 (by decide) ?_
        exact zz_reti C (rfl) hS (fS, fF, fW, jc, sp) (⟨fun h => absurd h (by intro h; exact h.2.2.1 c_22), fun _ => ⟨rfl, rfl⟩⟩) hP hD d_Mo_jug_34
      · refine lv_iload_n hx hb d_Mo_jug_24 rfl (lv_at hl 2 rfl) ?_
        refine lv_if_lt (tgt := 33) hx hb d_Mo_jug_25 (by decide) (fun c_23 => ?_) (fun c_23 => ?_)
        · refine lv_iconst (v := (-1)) hx hb d_Mo_jug_33 (by decide) ?_
          exact zz_reti C (rfl) hS (fS, fF, fW, jc, sp) (⟨fun h => absurd h (by intro h; exact h.2.2.2.1 c_23), fun _ => ⟨rfl, rfl⟩⟩) hP hD d_Mo_jug_34
        · refine lv_iload_n hx hb d_Mo_jug_28 rfl (lv_at hl 2 rfl) ?_
          refine lv_iload_n hx hb d_Mo_jug_29 rfl (lv_at hl 1 rfl) ?_
          refine lv_icmp_le (tgt := 35) hx hb d_Mo_jug_30 (by decide) (fun c_24 => ?_) (fun c_24 => ?_)
          · refine lv_aload_n hx hb d_Mo_jug_35 rfl (lv_at hl 0 rfl) ?_
            refine zz_get C hK hP fl_Mo_7 0 rfl rfl d_Mo_jug_36 ?_
            refine lv_aload_n hx hb d_Mo_jug_39 rfl (lv_at hl 0 rfl) ?_
            refine zz_get C hK hP fl_Mo_75 0 rfl rfl d_Mo_jug_40 ?_
            refine lv_iload_n hx hb d_Mo_jug_43 rfl (lv_at hl 1 rfl) ?_
            have hc4 : jc < 4 := by
              rcases Nat.lt_or_ge jc 4 with q | q
              · exact q
              · exact absurd (by rw [show jc = 4 by omega]; rfl) c_20
            refine zz_iastN C hK hP hD hS 1 rfl (j := jc) (hc4) (by omega) d_Mo_jug_44 (fun H locs hP hD hS => ?_)
            have hP : va_P E.1 vwCl [(y0, .inr (7, [.int 0, .int (nI jc), .ref z1, .ref z2, .ref z3, v5, v6, .int sp, v8, v9, v10, v11, v12, v13, v14, v15, v16, v17, v18, v19, v20, v21, v22, v23, v24, v25, v26, v27])), (z1, zI E 4 (upd fS jc x)), (z2, zI E 4 fF), (z3, zI E 4 fW)] H := hP
            have hD : va_D A [(y0, .inr (7, [.int 0, .int (nI jc), .ref z1, .ref z2, .ref z3, v5, v6, .int sp, v8, v9, v10, v11, v12, v13, v14, v15, v16, v17, v18, v19, v20, v21, v22, v23, v24, v25, v26, v27])), (z1, zI E 4 (upd fS jc x)), (z2, zI E 4 fF), (z3, zI E 4 fW)] := hD
            refine lv_aload_n hx hb d_Mo_jug_45 rfl (lv_at hl 0 rfl) ?_
            refine zz_get C hK hP fl_Mo_13 0 rfl rfl d_Mo_jug_46 ?_
            refine lv_aload_n hx hb d_Mo_jug_49 rfl (lv_at hl 0 rfl) ?_
            refine zz_get C hK hP fl_Mo_75 0 rfl rfl d_Mo_jug_50 ?_
            refine lv_iload_n hx hb d_Mo_jug_53 rfl (lv_at hl 2 rfl) ?_
            refine zz_iastN C hK hP hD hS 2 rfl (j := jc) (hc4) (by omega) d_Mo_jug_54 (fun H locs hP hD hS => ?_)
            have hP : va_P E.1 vwCl [(y0, .inr (7, [.int 0, .int (nI jc), .ref z1, .ref z2, .ref z3, v5, v6, .int sp, v8, v9, v10, v11, v12, v13, v14, v15, v16, v17, v18, v19, v20, v21, v22, v23, v24, v25, v26, v27])), (z1, zI E 4 (upd fS jc x)), (z2, zI E 4 (upd fF jc y)), (z3, zI E 4 fW)] H := hP
            have hD : va_D A [(y0, .inr (7, [.int 0, .int (nI jc), .ref z1, .ref z2, .ref z3, v5, v6, .int sp, v8, v9, v10, v11, v12, v13, v14, v15, v16, v17, v18, v19, v20, v21, v22, v23, v24, v25, v26, v27])), (z1, zI E 4 (upd fS jc x)), (z2, zI E 4 (upd fF jc y)), (z3, zI E 4 fW)] := hD
            refine lv_aload_n hx hb d_Mo_jug_55 rfl (lv_at hl 0 rfl) ?_
            refine zz_get C hK hP fl_Mo_16 0 rfl rfl d_Mo_jug_56 ?_
            refine lv_aload_n hx hb d_Mo_jug_59 rfl (lv_at hl 0 rfl) ?_
            refine zz_get C hK hP fl_Mo_75 0 rfl rfl d_Mo_jug_60 ?_
            refine lv_iconst (v := (-1)) hx hb d_Mo_jug_63 (by decide) ?_
            refine zz_iastN C hK hP hD hS 3 rfl (j := jc) (hc4) (by omega) d_Mo_jug_64 (fun H locs hP hD hS => ?_)
            have hP : va_P E.1 vwCl [(y0, .inr (7, [.int 0, .int (nI jc), .ref z1, .ref z2, .ref z3, v5, v6, .int sp, v8, v9, v10, v11, v12, v13, v14, v15, v16, v17, v18, v19, v20, v21, v22, v23, v24, v25, v26, v27])), (z1, zI E 4 (upd fS jc x)), (z2, zI E 4 (upd fF jc y)), (z3, zI E 4 (upd fW jc (-1)))] H := hP
            have hD : va_D A [(y0, .inr (7, [.int 0, .int (nI jc), .ref z1, .ref z2, .ref z3, v5, v6, .int sp, v8, v9, v10, v11, v12, v13, v14, v15, v16, v17, v18, v19, v20, v21, v22, v23, v24, v25, v26, v27])), (z1, zI E 4 (upd fS jc x)), (z2, zI E 4 (upd fF jc y)), (z3, zI E 4 (upd fW jc (-1)))] := hD
            refine lv_aload_n hx hb d_Mo_jug_65 rfl (lv_at hl 0 rfl) ?_
            refine lv_dup hx hb d_Mo_jug_66 rfl ?_
            refine zz_get C hK hP fl_Mo_75 0 rfl rfl d_Mo_jug_67 ?_
            refine lv_iconst (v := 1) hx hb d_Mo_jug_70 (by decide) ?_
            refine lv_iadd hx hb d_Mo_jug_71 ?_
            refine zz_eqi (y := nI (jc + 1)) (nI_1 _) ?_
            refine zz_put C hK hP hD hS fl_Mo_75 0 rfl rfl rfl (Nat.le_of_ble_eq_true rfl) d_Mo_jug_72 (fun H locs hP hD hS => ?_)
            have hP : va_P E.1 vwCl [(y0, .inr (7, [.int 0, .int (nI (jc + 1)), .ref z1, .ref z2, .ref z3, v5, v6, .int sp, v8, v9, v10, v11, v12, v13, v14, v15, v16, v17, v18, v19, v20, v21, v22, v23, v24, v25, v26, v27])), (z1, zI E 4 (upd fS jc x)), (z2, zI E 4 (upd fF jc y)), (z3, zI E 4 (upd fW jc (-1)))] H := hP
            have hD : va_D A [(y0, .inr (7, [.int 0, .int (nI (jc + 1)), .ref z1, .ref z2, .ref z3, v5, v6, .int sp, v8, v9, v10, v11, v12, v13, v14, v15, v16, v17, v18, v19, v20, v21, v22, v23, v24, v25, v26, v27])), (z1, zI E 4 (upd fS jc x)), (z2, zI E 4 (upd fF jc y)), (z3, zI E 4 (upd fW jc (-1)))] := hD
            refine lv_aload_n hx hb d_Mo_jug_75 rfl (lv_at hl 0 rfl) ?_
            refine lv_iconst (v := 0) hx hb d_Mo_jug_76 (by decide) ?_
            refine zz_put C hK hP hD hS fl_Mo_78 0 rfl rfl rfl (Nat.le_of_ble_eq_true rfl) d_Mo_jug_77 (fun H locs hP hD hS => ?_)
            have hP : va_P E.1 vwCl [(y0, .inr (7, [.int 0, .int (nI (jc + 1)), .ref z1, .ref z2, .ref z3, v5, v6, .int 0, v8, v9, v10, v11, v12, v13, v14, v15, v16, v17, v18, v19, v20, v21, v22, v23, v24, v25, v26, v27])), (z1, zI E 4 (upd fS jc x)), (z2, zI E 4 (upd fF jc y)), (z3, zI E 4 (upd fW jc (-1)))] H := hP
            have hD : va_D A [(y0, .inr (7, [.int 0, .int (nI (jc + 1)), .ref z1, .ref z2, .ref z3, v5, v6, .int 0, v8, v9, v10, v11, v12, v13, v14, v15, v16, v17, v18, v19, v20, v21, v22, v23, v24, v25, v26, v27])), (z1, zI E 4 (upd fS jc x)), (z2, zI E 4 (upd fF jc y)), (z3, zI E 4 (upd fW jc (-1)))] := hD
            refine lv_aload_n hx hb d_Mo_jug_80 rfl (lv_at hl 0 rfl) ?_
            refine zz_get C hK hP fl_Mo_75 0 rfl rfl d_Mo_jug_81 ?_
            refine lv_iconst (v := 1) hx hb d_Mo_jug_84 (by decide) ?_
            refine lv_isub hx hb d_Mo_jug_85 ?_
            refine zz_eqi (y := nI jc) (nI_pred jc) ?_
            exact zz_reti C (rfl) hS (upd fS jc x, upd fF jc y, upd fW jc (-1), jc + 1, 0) (⟨fun _ => ⟨rfl, rfl⟩, fun h => absurd ⟨nI_ge (b := 4) hc4 (by decide), c_21, c_22, c_23, c_24⟩ h⟩) hP hD d_Mo_jug_86
          · refine lv_iconst (v := (-1)) hx hb d_Mo_jug_33 (by decide) ?_
            exact zz_reti C (rfl) hS (fS, fF, fW, jc, sp) (⟨fun h => absurd h (by intro h; exact c_24 h.2.2.2.2), fun _ => ⟨rfl, rfl⟩⟩) hP hD d_Mo_jug_34

set_option maxHeartbeats 4000000 in
set_option maxRecDepth 100000 in
theorem c_Mo_unit (l : Launch) (E : zG) (y0 : Nat) (v1 v2 v3 v4 v7 v8 v9 v10 v11 v12 v13 v14 v15 v16 v17 v18 v19 v20 v21 v22 v23 v24 v25 v26 v27 : Value) (th : Int32) (z1 k : Nat) (fU : Nat → Int32) (x : Int32) (hk : k ≤ 100) : zMet l y_Mo_unit b_Mo_unit 2 (some .boolean) 0 0 0 0 E [.ref y0, .int x] [(y0, .inr (7, [.int th, v1, v2, v3, v4, .int (nI k), .ref z1, v7, v8, v9, v10, v11, v12, v13, v14, v15, v16, v17, v18, v19, v20, v21, v22, v23, v24, v25, v26, v27])), (z1, zI E 100 fU)] (zQi E (S := (Nat → Int32) × Nat) (fun r u => (¬ x < 0 ∧ ¬ 255 < x ∧ nI k < 100 → r = 1 ∧ u = (upd fU k x, k + 1)) ∧ (¬ (¬ x < 0 ∧ ¬ 255 < x ∧ nI k < 100) → r = 0 ∧ u = (fU, k))) (fun u => [(y0, .inr (7, [.int 0, v1, v2, v3, v4, .int (nI u.2), .ref z1, v7, v8, v9, v10, v11, v12, v13, v14, v15, v16, v17, v18, v19, v20, v21, v22, v23, v24, v25, v26, v27])), (z1, zI E 100 u.1)])) := by
  refine zz_met (by decide +kernel) (Nat.le_of_ble_eq_true rfl) ?_
  intro p e s m below meth c A ls C hin hA hK hst hP hD hl
  obtain ⟨hx, hb, hr, hml, hown, hts, hlk⟩ := id C
  have hS : va_S A s.heap s.heap [] := va_S.rf
  have hl : lv_has ls 2 [(0, .ref y0), (1, .int x)] := hl
  refine lv_aload_n hx hb d_Mo_unit_0 rfl (lv_at hl 0 rfl) ?_
  refine lv_iconst (v := 0) hx hb d_Mo_unit_1 (by decide) ?_
  refine zz_put C hK hP hD hS fl_Mo_72 0 rfl rfl rfl (Nat.le_of_ble_eq_true rfl) d_Mo_unit_2 (fun H locs hP hD hS => ?_)
  have hP : va_P E.1 vwCl [(y0, .inr (7, [.int 0, v1, v2, v3, v4, .int (nI k), .ref z1, v7, v8, v9, v10, v11, v12, v13, v14, v15, v16, v17, v18, v19, v20, v21, v22, v23, v24, v25, v26, v27])), (z1, zI E 100 fU)] H := hP
  have hD : va_D A [(y0, .inr (7, [.int 0, v1, v2, v3, v4, .int (nI k), .ref z1, v7, v8, v9, v10, v11, v12, v13, v14, v15, v16, v17, v18, v19, v20, v21, v22, v23, v24, v25, v26, v27])), (z1, zI E 100 fU)] := hD
  refine lv_iload_n hx hb d_Mo_unit_5 rfl (lv_at hl 1 rfl) ?_
  refine lv_if_lt (tgt := 25) hx hb d_Mo_unit_6 (by decide) (fun c_25 => ?_) (fun c_25 => ?_)
  · refine lv_iconst (v := 0) hx hb d_Mo_unit_25 (by decide) ?_
    exact zz_reti C (rfl) hS (fU, k) (⟨fun h => absurd h (by intro h; exact h.1 c_25), fun _ => ⟨rfl, rfl⟩⟩) hP hD d_Mo_unit_26
  · refine lv_iload_n hx hb d_Mo_unit_9 rfl (lv_at hl 1 rfl) ?_
    refine lv_sipush (v := 255) hx hb d_Mo_unit_10 (by decide) ?_
    refine lv_icmp_gt (tgt := 25) hx hb d_Mo_unit_13 (by decide) (fun c_26 => ?_) (fun c_26 => ?_)
    · refine lv_iconst (v := 0) hx hb d_Mo_unit_25 (by decide) ?_
      exact zz_reti C (rfl) hS (fU, k) (⟨fun h => absurd h (by intro h; exact h.2.1 c_26), fun _ => ⟨rfl, rfl⟩⟩) hP hD d_Mo_unit_26
    · refine lv_aload_n hx hb d_Mo_unit_16 rfl (lv_at hl 0 rfl) ?_
      refine zz_get C hK hP fl_Mo_111 0 rfl rfl d_Mo_unit_17 ?_
      refine lv_bipush (v := 100) hx hb d_Mo_unit_20 (by decide) ?_
      refine lv_icmp_ne (tgt := 27) hx hb d_Mo_unit_22 (by decide) (fun c_27 => ?_) (fun c_27 => ?_)
      · refine lv_aload_n hx hb d_Mo_unit_27 rfl (lv_at hl 0 rfl) ?_
        refine zz_get C hK hP fl_Mo_19 0 rfl rfl d_Mo_unit_28 ?_
        refine lv_aload_n hx hb d_Mo_unit_31 rfl (lv_at hl 0 rfl) ?_
        refine zz_get C hK hP fl_Mo_111 0 rfl rfl d_Mo_unit_32 ?_
        refine lv_iload_n hx hb d_Mo_unit_35 rfl (lv_at hl 1 rfl) ?_
        have hk1 : k < 100 := by
          rcases Nat.lt_or_ge k 100 with q | q
          · exact q
          · exact absurd (by rw [show k = 100 by omega]; rfl) c_27
        refine zz_iastN C hK hP hD hS 1 rfl (j := k) (hk1) (by omega) d_Mo_unit_36 (fun H locs hP hD hS => ?_)
        have hP : va_P E.1 vwCl [(y0, .inr (7, [.int 0, v1, v2, v3, v4, .int (nI k), .ref z1, v7, v8, v9, v10, v11, v12, v13, v14, v15, v16, v17, v18, v19, v20, v21, v22, v23, v24, v25, v26, v27])), (z1, zI E 100 (upd fU k x))] H := hP
        have hD : va_D A [(y0, .inr (7, [.int 0, v1, v2, v3, v4, .int (nI k), .ref z1, v7, v8, v9, v10, v11, v12, v13, v14, v15, v16, v17, v18, v19, v20, v21, v22, v23, v24, v25, v26, v27])), (z1, zI E 100 (upd fU k x))] := hD
        refine lv_aload_n hx hb d_Mo_unit_37 rfl (lv_at hl 0 rfl) ?_
        refine lv_dup hx hb d_Mo_unit_38 rfl ?_
        refine zz_get C hK hP fl_Mo_111 0 rfl rfl d_Mo_unit_39 ?_
        refine lv_iconst (v := 1) hx hb d_Mo_unit_42 (by decide) ?_
        refine lv_iadd hx hb d_Mo_unit_43 ?_
        refine zz_eqi (y := nI (k + 1)) (nI_1 _) ?_
        refine zz_put C hK hP hD hS fl_Mo_111 0 rfl rfl rfl (Nat.le_of_ble_eq_true rfl) d_Mo_unit_44 (fun H locs hP hD hS => ?_)
        have hP : va_P E.1 vwCl [(y0, .inr (7, [.int 0, v1, v2, v3, v4, .int (nI (k + 1)), .ref z1, v7, v8, v9, v10, v11, v12, v13, v14, v15, v16, v17, v18, v19, v20, v21, v22, v23, v24, v25, v26, v27])), (z1, zI E 100 (upd fU k x))] H := hP
        have hD : va_D A [(y0, .inr (7, [.int 0, v1, v2, v3, v4, .int (nI (k + 1)), .ref z1, v7, v8, v9, v10, v11, v12, v13, v14, v15, v16, v17, v18, v19, v20, v21, v22, v23, v24, v25, v26, v27])), (z1, zI E 100 (upd fU k x))] := hD
        refine lv_iconst (v := 1) hx hb d_Mo_unit_47 (by decide) ?_
        exact zz_reti C (rfl) hS (upd fU k x, k + 1) (⟨fun _ => ⟨rfl, rfl⟩, fun h => absurd ⟨c_25, c_26, nI_lt (b := 100) hk1 (by decide)⟩ h⟩) hP hD d_Mo_unit_48
      · refine lv_iconst (v := 0) hx hb d_Mo_unit_25 (by decide) ?_
        exact zz_reti C (rfl) hS (fU, k) (⟨fun h => absurd h (by intro h; exact absurd h.2.2 (by rw [c_27]; decide)), fun _ => ⟨rfl, rfl⟩⟩) hP hD d_Mo_unit_26

set_option maxHeartbeats 4000000 in
set_option maxRecDepth 100000 in
theorem c_Mo_goal (l : Launch) (E : zG) (y0 : Nat) (v3 v5 v6 v8 v9 v10 v11 v12 v13 v14 v15 v16 v17 v18 v19 v20 v21 v22 v23 v24 v25 v26 v27 : Value) (th : Int32) (z1 z3 jc : Nat) (fS fW : Nat → Int32) (sp : Int32) (k v : Int32) (hc : jc ≤ 4) : zMet l y_Mo_goal b_Mo_goal 3 (some .boolean) 0 0 0 0 E [.ref y0, .int k, .int v] [(y0, .inr (7, [.int th, .int (nI jc), .ref z1, v3, .ref z3, v5, v6, .int sp, v8, v9, v10, v11, v12, v13, v14, v15, v16, v17, v18, v19, v20, v21, v22, v23, v24, v25, v26, v27])), (z1, zI E 4 fS), (z3, zI E 4 fW)] (zQi E (S := (Nat → Int32) × Int32) (fun r u => (¬ k < 0 ∧ ¬ nI jc ≤ k ∧ ¬ v < (-1) ∧ v ≤ fS k.toNatClampNeg → r = 1 ∧ u = (upd fW k.toNatClampNeg v, 0)) ∧ (¬ (¬ k < 0 ∧ ¬ nI jc ≤ k ∧ ¬ v < (-1) ∧ v ≤ fS k.toNatClampNeg) → r = 0 ∧ u = (fW, sp))) (fun u => [(y0, .inr (7, [.int 0, .int (nI jc), .ref z1, v3, .ref z3, v5, v6, .int u.2, v8, v9, v10, v11, v12, v13, v14, v15, v16, v17, v18, v19, v20, v21, v22, v23, v24, v25, v26, v27])), (z1, zI E 4 fS), (z3, zI E 4 u.1)])) := by
  refine zz_met (by decide +kernel) (Nat.le_of_ble_eq_true rfl) ?_
  intro p e s m below meth c A ls C hin hA hK hst hP hD hl
  obtain ⟨hx, hb, hr, hml, hown, hts, hlk⟩ := id C
  have hS : va_S A s.heap s.heap [] := va_S.rf
  have hl : lv_has ls 3 [(0, .ref y0), (1, .int k), (2, .int v)] := hl
  refine lv_aload_n hx hb d_Mo_goal_0 rfl (lv_at hl 0 rfl) ?_
  refine lv_iconst (v := 0) hx hb d_Mo_goal_1 (by decide) ?_
  refine zz_put C hK hP hD hS fl_Mo_72 0 rfl rfl rfl (Nat.le_of_ble_eq_true rfl) d_Mo_goal_2 (fun H locs hP hD hS => ?_)
  have hP : va_P E.1 vwCl [(y0, .inr (7, [.int 0, .int (nI jc), .ref z1, v3, .ref z3, v5, v6, .int sp, v8, v9, v10, v11, v12, v13, v14, v15, v16, v17, v18, v19, v20, v21, v22, v23, v24, v25, v26, v27])), (z1, zI E 4 fS), (z3, zI E 4 fW)] H := hP
  have hD : va_D A [(y0, .inr (7, [.int 0, .int (nI jc), .ref z1, v3, .ref z3, v5, v6, .int sp, v8, v9, v10, v11, v12, v13, v14, v15, v16, v17, v18, v19, v20, v21, v22, v23, v24, v25, v26, v27])), (z1, zI E 4 fS), (z3, zI E 4 fW)] := hD
  refine lv_iload_n hx hb d_Mo_goal_5 rfl (lv_at hl 1 rfl) ?_
  refine lv_if_lt (tgt := 48) hx hb d_Mo_goal_6 (by decide) (fun c_28 => ?_) (fun c_28 => ?_)
  · refine lv_iconst (v := 0) hx hb d_Mo_goal_48 (by decide) ?_
    exact zz_reti C (rfl) hS (fW, sp) (⟨fun h => absurd h (by intro h; exact h.1 c_28), fun _ => ⟨rfl, rfl⟩⟩) hP hD d_Mo_goal_49
  · refine lv_iload_n hx hb d_Mo_goal_9 rfl (lv_at hl 1 rfl) ?_
    refine lv_aload_n hx hb d_Mo_goal_10 rfl (lv_at hl 0 rfl) ?_
    refine zz_get C hK hP fl_Mo_75 0 rfl rfl d_Mo_goal_11 ?_
    refine lv_icmp_ge (tgt := 48) hx hb d_Mo_goal_14 (by decide) (fun c_29 => ?_) (fun c_29 => ?_)
    · refine lv_iconst (v := 0) hx hb d_Mo_goal_48 (by decide) ?_
      exact zz_reti C (rfl) hS (fW, sp) (⟨fun h => absurd h (by intro h; exact h.2.1 c_29), fun _ => ⟨rfl, rfl⟩⟩) hP hD d_Mo_goal_49
    · refine lv_iload_n hx hb d_Mo_goal_17 rfl (lv_at hl 2 rfl) ?_
      refine lv_iconst (v := (-1)) hx hb d_Mo_goal_18 (by decide) ?_
      refine lv_icmp_lt (tgt := 48) hx hb d_Mo_goal_19 (by decide) (fun c_30 => ?_) (fun c_30 => ?_)
      · refine lv_iconst (v := 0) hx hb d_Mo_goal_48 (by decide) ?_
        exact zz_reti C (rfl) hS (fW, sp) (⟨fun h => absurd h (by intro h; exact h.2.2.1 c_30), fun _ => ⟨rfl, rfl⟩⟩) hP hD d_Mo_goal_49
      · refine lv_iload_n hx hb d_Mo_goal_22 rfl (lv_at hl 2 rfl) ?_
        refine lv_iload_n hx hb d_Mo_goal_23 rfl (lv_at hl 1 rfl) ?_
        refine lv_if_lt (tgt := 35) hx hb d_Mo_goal_24 (by decide) (fun c_31 => ?_) (fun c_31 => ?_)
        · exact absurd c_31 c_28
        · refine lv_iload_n hx hb d_Mo_goal_27 rfl (lv_at hl 1 rfl) ?_
          refine lv_aload_n hx hb d_Mo_goal_28 rfl (lv_at hl 0 rfl) ?_
          refine zz_get C hK hP fl_Mo_75 0 rfl rfl d_Mo_goal_29 ?_
          refine lv_icmp_lt (tgt := 39) hx hb d_Mo_goal_32 (by decide) (fun c_32 => ?_) (fun c_32 => ?_)
          · refine lv_aload_n hx hb d_Mo_goal_39 rfl (lv_at hl 0 rfl) ?_
            refine zz_get C hK hP fl_Mo_7 0 rfl rfl d_Mo_goal_40 ?_
            refine lv_iload_n hx hb d_Mo_goal_43 rfl (lv_at hl 1 rfl) ?_
            refine zz_iald C hK hP 1 rfl (zz_vp4 hc c_28 c_29) d_Mo_goal_44 ?_
            refine lv_icmp_le (tgt := 50) hx hb d_Mo_goal_45 (by decide) (fun c_33 => ?_) (fun c_33 => ?_)
            · refine lv_aload_n hx hb d_Mo_goal_50 rfl (lv_at hl 0 rfl) ?_
              refine zz_get C hK hP fl_Mo_16 0 rfl rfl d_Mo_goal_51 ?_
              refine lv_iload_n hx hb d_Mo_goal_54 rfl (lv_at hl 1 rfl) ?_
              refine lv_iload_n hx hb d_Mo_goal_55 rfl (lv_at hl 2 rfl) ?_
              refine zz_iast C hK hP hD hS 2 rfl (zz_vp4 hc c_28 c_29) d_Mo_goal_56 (fun H locs hP hD hS => ?_)
              have hP : va_P E.1 vwCl [(y0, .inr (7, [.int 0, .int (nI jc), .ref z1, v3, .ref z3, v5, v6, .int sp, v8, v9, v10, v11, v12, v13, v14, v15, v16, v17, v18, v19, v20, v21, v22, v23, v24, v25, v26, v27])), (z1, zI E 4 fS), (z3, zI E 4 (upd fW k.toNatClampNeg v))] H := hP
              have hD : va_D A [(y0, .inr (7, [.int 0, .int (nI jc), .ref z1, v3, .ref z3, v5, v6, .int sp, v8, v9, v10, v11, v12, v13, v14, v15, v16, v17, v18, v19, v20, v21, v22, v23, v24, v25, v26, v27])), (z1, zI E 4 fS), (z3, zI E 4 (upd fW k.toNatClampNeg v))] := hD
              refine lv_aload_n hx hb d_Mo_goal_57 rfl (lv_at hl 0 rfl) ?_
              refine lv_iconst (v := 0) hx hb d_Mo_goal_58 (by decide) ?_
              refine zz_put C hK hP hD hS fl_Mo_78 0 rfl rfl rfl (Nat.le_of_ble_eq_true rfl) d_Mo_goal_59 (fun H locs hP hD hS => ?_)
              have hP : va_P E.1 vwCl [(y0, .inr (7, [.int 0, .int (nI jc), .ref z1, v3, .ref z3, v5, v6, .int 0, v8, v9, v10, v11, v12, v13, v14, v15, v16, v17, v18, v19, v20, v21, v22, v23, v24, v25, v26, v27])), (z1, zI E 4 fS), (z3, zI E 4 (upd fW k.toNatClampNeg v))] H := hP
              have hD : va_D A [(y0, .inr (7, [.int 0, .int (nI jc), .ref z1, v3, .ref z3, v5, v6, .int 0, v8, v9, v10, v11, v12, v13, v14, v15, v16, v17, v18, v19, v20, v21, v22, v23, v24, v25, v26, v27])), (z1, zI E 4 fS), (z3, zI E 4 (upd fW k.toNatClampNeg v))] := hD
              refine lv_iconst (v := 1) hx hb d_Mo_goal_62 (by decide) ?_
              exact zz_reti C (rfl) hS (upd fW k.toNatClampNeg v, 0) (⟨fun _ => ⟨rfl, rfl⟩, fun h => absurd ⟨c_28, c_29, c_30, c_33⟩ h⟩) hP hD d_Mo_goal_63
            · refine lv_iconst (v := 0) hx hb d_Mo_goal_48 (by decide) ?_
              exact zz_reti C (rfl) hS (fW, sp) (⟨fun h => absurd h (by intro h; exact c_33 h.2.2.2), fun _ => ⟨rfl, rfl⟩⟩) hP hD d_Mo_goal_49
          · exact absurd (zz_nlt c_32) c_29

set_option maxHeartbeats 4000000 in
set_option maxRecDepth 100000 in
theorem c_Mo_step (l : Launch) (E : zG) (y0 : Nat) (v1 v2 v3 v4 v5 v6 v10 v11 v12 v13 v14 v15 v16 v17 v18 v19 v20 v21 v22 v23 v24 v25 v26 v27 : Value) (th : Int32) (z1 z2 sp : Nat) (f1 f2 : Nat → Int32) (k b0 : Int32) (hsp : sp ≤ 10000) : zMet l y_Mo_step b_Mo_step 3 (some .int) 0 0 0 0 E [.ref y0, .int k, .int b0] [(y0, .inr (7, [.int th, v1, v2, v3, v4, v5, v6, .int (nI sp), .ref z1, .ref z2, v10, v11, v12, v13, v14, v15, v16, v17, v18, v19, v20, v21, v22, v23, v24, v25, v26, v27])), (z1, zI E 10000 f1), (z2, zI E 10000 f2)] (zQi E (S := Unit) (fun r _ => r = if ¬ k < 0 ∧ k < nI sp then (if b0 = 0 then f1 k.toNatClampNeg else f2 k.toNatClampNeg) else -2) (fun _ => [(y0, .inr (7, [.int 0, v1, v2, v3, v4, v5, v6, .int (nI sp), .ref z1, .ref z2, v10, v11, v12, v13, v14, v15, v16, v17, v18, v19, v20, v21, v22, v23, v24, v25, v26, v27])), (z1, zI E 10000 f1), (z2, zI E 10000 f2)])) := by
  refine zz_met (by decide +kernel) (Nat.le_of_ble_eq_true rfl) ?_
  intro p e s m below meth c A ls C hin hA hK hst hP hD hl
  obtain ⟨hx, hb, hr, hml, hown, hts, hlk⟩ := id C
  have hS : va_S A s.heap s.heap [] := va_S.rf
  have hl : lv_has ls 3 [(0, .ref y0), (1, .int k), (2, .int b0)] := hl
  refine lv_aload_n hx hb d_Mo_step_0 rfl (lv_at hl 0 rfl) ?_
  refine lv_iconst (v := 0) hx hb d_Mo_step_1 (by decide) ?_
  refine zz_put C hK hP hD hS fl_Mo_72 0 rfl rfl rfl (Nat.le_of_ble_eq_true rfl) d_Mo_step_2 (fun H locs hP hD hS => ?_)
  have hP : va_P E.1 vwCl [(y0, .inr (7, [.int 0, v1, v2, v3, v4, v5, v6, .int (nI sp), .ref z1, .ref z2, v10, v11, v12, v13, v14, v15, v16, v17, v18, v19, v20, v21, v22, v23, v24, v25, v26, v27])), (z1, zI E 10000 f1), (z2, zI E 10000 f2)] H := hP
  have hD : va_D A [(y0, .inr (7, [.int 0, v1, v2, v3, v4, v5, v6, .int (nI sp), .ref z1, .ref z2, v10, v11, v12, v13, v14, v15, v16, v17, v18, v19, v20, v21, v22, v23, v24, v25, v26, v27])), (z1, zI E 10000 f1), (z2, zI E 10000 f2)] := hD
  refine lv_iload_n hx hb d_Mo_step_5 rfl (lv_at hl 1 rfl) ?_
  refine lv_if_lt (tgt := 17) hx hb d_Mo_step_6 (by decide) (fun c_34 => ?_) (fun c_34 => ?_)
  · refine lv_bipush (v := (-2)) hx hb d_Mo_step_17 (by decide) ?_
    exact zz_reti C (rfl) hS () ((if_neg (fun h => h.1 c_34)).symm) hP hD d_Mo_step_19
  · refine lv_iload_n hx hb d_Mo_step_9 rfl (lv_at hl 1 rfl) ?_
    refine lv_aload_n hx hb d_Mo_step_10 rfl (lv_at hl 0 rfl) ?_
    refine zz_get C hK hP fl_Mo_78 0 rfl rfl d_Mo_step_11 ?_
    refine lv_icmp_lt (tgt := 20) hx hb d_Mo_step_14 (by decide) (fun c_35 => ?_) (fun c_35 => ?_)
    · have hv : vp_in k 10000 := by
        obtain ⟨j, hj, rfl⟩ := vp_in_of (zz_vp c_34 (zz_nle c_35) (by omega)) (by omega)
        exact vp_in_nI (by omega) (by decide)
      refine lv_iload_n hx hb d_Mo_step_20 rfl (lv_at hl 2 rfl) ?_
      refine lv_if_eq (tgt := 33) hx hb d_Mo_step_21 (by decide) (fun c_36 => ?_) (fun c_36 => ?_)
      · refine lv_aload_n hx hb d_Mo_step_33 rfl (lv_at hl 0 rfl) ?_
        refine zz_get C hK hP fl_Mo_22 0 rfl rfl d_Mo_step_34 ?_
        refine lv_iload_n hx hb d_Mo_step_37 rfl (lv_at hl 1 rfl) ?_
        refine zz_iald C hK hP 1 rfl (hv) d_Mo_step_38 ?_
        exact zz_reti C (rfl) hS () (by rw [if_pos ⟨c_34, c_35⟩, if_pos c_36]) hP hD d_Mo_step_39
      · refine lv_aload_n hx hb d_Mo_step_24 rfl (lv_at hl 0 rfl) ?_
        refine zz_get C hK hP fl_Mo_25 0 rfl rfl d_Mo_step_25 ?_
        refine lv_iload_n hx hb d_Mo_step_28 rfl (lv_at hl 1 rfl) ?_
        refine zz_iald C hK hP 2 rfl (hv) d_Mo_step_29 ?_
        refine lv_goto (tgt := 39) hx hb d_Mo_step_30 (by decide) ?_
        exact zz_reti C (rfl) hS () (by rw [if_pos ⟨c_34, c_35⟩, if_neg c_36]) hP hD d_Mo_step_39
    · refine lv_bipush (v := (-2)) hx hb d_Mo_step_17 (by decide) ?_
      exact zz_reti C (rfl) hS () ((if_neg (fun h => c_35 h.2)).symm) hP hD d_Mo_step_19

set_option maxHeartbeats 4000000 in
set_option maxRecDepth 100000 in
theorem c_Mo_all (l : Launch) (E : zG) (y0 : Nat) (v1 v2 v3 v4 v5 v6 v7 v8 v9 v10 v11 v12 v13 v14 v15 v16 v17 v18 v19 v20 v24 v25 v26 v27 : Value) (th : Int32) (z1 pg ds : Nat) (f4 : Nat → Int64) (hp : pg = 3 ∨ pg = 4) (hd : ds ≤ 40) (hT : ∀ j, j < 41 → f4 j = lN (tw_F j)) : zMet l y_Mo_all b_Mo_all 1 (some .long) 1 20 0 0 E [.ref y0] [(y0, .inr (7, [.int th, v1, v2, v3, v4, v5, v6, v7, v8, v9, v10, v11, v12, v13, v14, v15, v16, v17, v18, v19, v20, .int (nI pg), .int (nI ds), .ref z1, v24, v25, v26, v27])), (z1, zL E 41 f4)] (zQl E (S := Unit) (fun r _ => r = lN (tw_M pg ds)) (fun _ => [(y0, .inr (7, [.int th, v1, v2, v3, v4, v5, v6, v7, v8, v9, v10, v11, v12, v13, v14, v15, v16, v17, v18, v19, v20, .int (nI pg), .int (nI ds), .ref z1, v24, v25, v26, v27])), (z1, zL E 41 f4)])) := by
  refine zz_met (by decide +kernel) (Nat.le_of_ble_eq_true rfl) ?_
  intro p e s m below meth c A ls C hin hA hK hst hP hD hl
  obtain ⟨hx, hb, hr, hml, hown, hts, hlk⟩ := id C
  have hS : va_S A s.heap s.heap [] := va_S.rf
  have hl : lv_has ls 1 [(0, .ref y0)] := hl
  refine lv_aload_n hx hb d_Mo_all_0 rfl (lv_at hl 0 rfl) ?_
  refine zz_get C hK hP fl_Mo_53 0 rfl rfl d_Mo_all_1 ?_
  refine lv_iconst (v := 3) hx hb d_Mo_all_4 (by decide) ?_
  refine lv_icmp_ne (tgt := 18) hx hb d_Mo_all_5 (by decide) (fun c_37 => ?_) (fun c_37 => ?_)
  · have h3 : ¬ pg = 3 := fun z => c_37 (by rw [z]; rfl)
    refine lv_aload_n hx hb d_Mo_all_18 rfl (lv_at hl 0 rfl) ?_
    refine zz_get C hK hP fl_Mo_57 0 rfl rfl d_Mo_all_19 ?_
    refine lv_aload_n hx hb d_Mo_all_22 rfl (lv_at hl 0 rfl) ?_
    refine zz_get C hK hP fl_Mo_137 0 rfl rfl d_Mo_all_23 ?_
    refine zz_laldN C hK hP 1 rfl (j := ds) (by omega) (by omega) d_Mo_all_26 ?_
    exact zz_retl C hS () (by unfold tw_M; rw [if_neg h3]; exact hT ds (by omega)) hP hD d_Mo_all_27
  · have h3 : pg = 3 := by
      rcases hp with q | q
      · exact q
      · exact absurd (by rw [q] at c_37; exact c_37) (by decide : ¬ nI 4 = 3)
    refine lv_aload_n hx hb d_Mo_all_8 rfl (lv_at hl 0 rfl) ?_
    refine zz_get C hK hP fl_Mo_137 0 rfl rfl d_Mo_all_9 ?_
    refine zz_gol (wr := [(y0, .inr (7, [.int th, v1, v2, v3, v4, v5, v6, v7, v8, v9, v10, v11, v12, v13, v14, v15, v16, v17, v18, v19, v20, .int (nI pg), .int (nI ds), .ref z1, v24, v25, v26, v27])), (z1, zL E 41 f4)]) [] [0, 1] rfl rfl (by decide) (by decide) hA hP hD hS (zz_runS (wc := []) (As := [.int (nI ds)]) (rest := []) C (c_Mo_three l E ds (by omega)) ym_Mo_three wd_ml_Mo_68 wd_st_Mo_three [] (by decide) rfl hA hK hst hP hD hS rfl hl.1 rfl (Nat.le_of_ble_eq_true rfl) ⟨Nat.le_of_ble_eq_true rfl, Nat.le_of_ble_eq_true rfl⟩ ⟨Nat.le_of_ble_eq_true rfl, Nat.le_of_ble_eq_true rfl⟩ d_Mo_all_12) (fun r_38 u H locs hw hP hD hS => ?_)
    have hP : va_P E.1 vwCl [(y0, .inr (7, [.int th, v1, v2, v3, v4, v5, v6, v7, v8, v9, v10, v11, v12, v13, v14, v15, v16, v17, v18, v19, v20, .int (nI pg), .int (nI ds), .ref z1, v24, v25, v26, v27])), (z1, zL E 41 f4)] H := hP
    have hD : va_D A [(y0, .inr (7, [.int th, v1, v2, v3, v4, v5, v6, v7, v8, v9, v10, v11, v12, v13, v14, v15, v16, v17, v18, v19, v20, .int (nI pg), .int (nI ds), .ref z1, v24, v25, v26, v27])), (z1, zL E 41 f4)] := hD
    refine lv_goto (tgt := 27) hx hb d_Mo_all_15 (by decide) ?_
    exact zz_retl C hS () (by unfold tw_M; rw [if_pos h3]; exact hw) hP hD d_Mo_all_27

set_option maxHeartbeats 4000000 in
set_option maxRecDepth 100000 in
theorem c_Mo_tower_bad (l : Launch) (E : zG) (y0 : Nat) (v1 v2 v3 v4 v5 v6 v7 v8 v9 v10 v11 v12 v13 v14 v15 v16 v17 v18 v19 v20 v24 v25 v26 v27 : Value) (th : Int32) (z1 pg ds : Nat) (f4 : Nat → Int64) (x y : Int32) (hb0 : ¬ (¬ x < 3 ∧ ¬ 4 < x ∧ ¬ y < 0 ∧ y ≤ 40)) : zMet l y_Mo_tower b_Mo_tower 3 (some .long) 2 40 0 0 E [.ref y0, .int x, .int y] [(y0, .inr (7, [.int th, v1, v2, v3, v4, v5, v6, v7, v8, v9, v10, v11, v12, v13, v14, v15, v16, v17, v18, v19, v20, .int (nI pg), .int (nI ds), .ref z1, v24, v25, v26, v27])), (z1, zL E 41 f4)] (zQl E (S := Unit) (fun r _ => r = -1) (fun _ => [(y0, .inr (7, [.int 0, v1, v2, v3, v4, v5, v6, v7, v8, v9, v10, v11, v12, v13, v14, v15, v16, v17, v18, v19, v20, .int (nI pg), .int (nI ds), .ref z1, v24, v25, v26, v27])), (z1, zL E 41 f4)])) := by
  refine zz_met (by decide +kernel) (Nat.le_of_ble_eq_true rfl) ?_
  intro p e s m below meth c A ls C hin hA hK hst hP hD hl
  obtain ⟨hx, hb, hr, hml, hown, hts, hlk⟩ := id C
  have hS : va_S A s.heap s.heap [] := va_S.rf
  have hl : lv_has ls 3 [(0, .ref y0), (1, .int x), (2, .int y)] := hl
  refine lv_aload_n hx hb d_Mo_tower_0 rfl (lv_at hl 0 rfl) ?_
  refine lv_iconst (v := 0) hx hb d_Mo_tower_1 (by decide) ?_
  refine zz_put C hK hP hD hS fl_Mo_72 0 rfl rfl rfl (Nat.le_of_ble_eq_true rfl) d_Mo_tower_2 (fun H locs hP hD hS => ?_)
  have hP : va_P E.1 vwCl [(y0, .inr (7, [.int 0, v1, v2, v3, v4, v5, v6, v7, v8, v9, v10, v11, v12, v13, v14, v15, v16, v17, v18, v19, v20, .int (nI pg), .int (nI ds), .ref z1, v24, v25, v26, v27])), (z1, zL E 41 f4)] H := hP
  have hD : va_D A [(y0, .inr (7, [.int 0, v1, v2, v3, v4, v5, v6, v7, v8, v9, v10, v11, v12, v13, v14, v15, v16, v17, v18, v19, v20, .int (nI pg), .int (nI ds), .ref z1, v24, v25, v26, v27])), (z1, zL E 41 f4)] := hD
  refine lv_iload_n hx hb d_Mo_tower_5 rfl (lv_at hl 1 rfl) ?_
  refine lv_iconst (v := 3) hx hb d_Mo_tower_6 (by decide) ?_
  refine lv_icmp_eq (tgt := 15) hx hb d_Mo_tower_7 (by decide) (fun c_39 => ?_) (fun c_39 => ?_)
  · refine lv_iload_n hx hb d_Mo_tower_15 rfl (lv_at hl 2 rfl) ?_
    refine lv_if_lt (tgt := 25) hx hb d_Mo_tower_16 (by decide) (fun c_40 => ?_) (fun c_40 => ?_)
    · refine lv_ldc2 (v := (-1)) hx hb hown (hts _ wk_Mo_135) d_Mo_tower_25 ?_
      exact zz_retl C hS () (rfl) hP hD d_Mo_tower_28
    · refine lv_iload_n hx hb d_Mo_tower_19 rfl (lv_at hl 2 rfl) ?_
      refine lv_bipush (v := 40) hx hb d_Mo_tower_20 (by decide) ?_
      refine lv_icmp_le (tgt := 29) hx hb d_Mo_tower_22 (by decide) (fun c_41 => ?_) (fun c_41 => ?_)
      · exact absurd ⟨(by rw [c_39]; decide), (by rw [c_39]; decide), c_40, c_41⟩ hb0
      · refine lv_ldc2 (v := (-1)) hx hb hown (hts _ wk_Mo_135) d_Mo_tower_25 ?_
        exact zz_retl C hS () (rfl) hP hD d_Mo_tower_28
  · refine lv_iload_n hx hb d_Mo_tower_10 rfl (lv_at hl 1 rfl) ?_
    refine lv_iconst (v := 4) hx hb d_Mo_tower_11 (by decide) ?_
    refine lv_icmp_ne (tgt := 25) hx hb d_Mo_tower_12 (by decide) (fun c_42 => ?_) (fun c_42 => ?_)
    · refine lv_ldc2 (v := (-1)) hx hb hown (hts _ wk_Mo_135) d_Mo_tower_25 ?_
      exact zz_retl C hS () (rfl) hP hD d_Mo_tower_28
    · refine lv_iload_n hx hb d_Mo_tower_15 rfl (lv_at hl 2 rfl) ?_
      refine lv_if_lt (tgt := 25) hx hb d_Mo_tower_16 (by decide) (fun c_43 => ?_) (fun c_43 => ?_)
      · refine lv_ldc2 (v := (-1)) hx hb hown (hts _ wk_Mo_135) d_Mo_tower_25 ?_
        exact zz_retl C hS () (rfl) hP hD d_Mo_tower_28
      · refine lv_iload_n hx hb d_Mo_tower_19 rfl (lv_at hl 2 rfl) ?_
        refine lv_bipush (v := 40) hx hb d_Mo_tower_20 (by decide) ?_
        refine lv_icmp_le (tgt := 29) hx hb d_Mo_tower_22 (by decide) (fun c_44 => ?_) (fun c_44 => ?_)
        · exact absurd ⟨(by rw [c_42]; decide), (by rw [c_42]; decide), c_43, c_44⟩ hb0
        · refine lv_ldc2 (v := (-1)) hx hb hown (hts _ wk_Mo_135) d_Mo_tower_25 ?_
          exact zz_retl C hS () (rfl) hP hD d_Mo_tower_28

set_option maxHeartbeats 4000000 in
set_option maxRecDepth 100000 in
theorem c_Mo_tower_ok (l : Launch) (E : zG) (y0 : Nat) (v1 v2 v3 v4 v5 v6 v7 v8 v9 v10 v11 v12 v13 v14 v15 v16 v17 v18 v19 v20 v24 v25 v26 v27 : Value) (th : Int32) (z1 pg ds : Nat) (f4 : Nat → Int64) (p2 d2 : Nat) (hp : p2 = 3 ∨ p2 = 4) (hd : d2 ≤ 40) (hT : ∀ j, j < 41 → f4 j = lN (tw_F j)) : zMet l y_Mo_tower b_Mo_tower 3 (some .long) 2 40 0 0 E [.ref y0, .int (nI p2), .int (nI d2)] [(y0, .inr (7, [.int th, v1, v2, v3, v4, v5, v6, v7, v8, v9, v10, v11, v12, v13, v14, v15, v16, v17, v18, v19, v20, .int (nI pg), .int (nI ds), .ref z1, v24, v25, v26, v27])), (z1, zL E 41 f4)] (zQl E (S := Unit) (fun r _ => r = lN (tw_M p2 d2)) (fun _ => [(y0, .inr (7, [.int 0, v1, v2, v3, v4, v5, v6, v7, v8, v9, v10, v11, v12, v13, v14, v15, v16, v17, v18, v19, v20, .int (nI p2), .int (nI d2), .ref z1, v24, v25, v26, v27])), (z1, zL E 41 f4)])) := by
  refine zz_met (by decide +kernel) (Nat.le_of_ble_eq_true rfl) ?_
  intro p e s m below meth c A ls C hin hA hK hst hP hD hl
  obtain ⟨hx, hb, hr, hml, hown, hts, hlk⟩ := id C
  have hS : va_S A s.heap s.heap [] := va_S.rf
  have hl : lv_has ls 3 [(0, .ref y0), (1, .int (nI p2)), (2, .int (nI d2))] := hl
  refine lv_aload_n hx hb d_Mo_tower_0 rfl (lv_at hl 0 rfl) ?_
  refine lv_iconst (v := 0) hx hb d_Mo_tower_1 (by decide) ?_
  refine zz_put C hK hP hD hS fl_Mo_72 0 rfl rfl rfl (Nat.le_of_ble_eq_true rfl) d_Mo_tower_2 (fun H locs hP hD hS => ?_)
  have hP : va_P E.1 vwCl [(y0, .inr (7, [.int 0, v1, v2, v3, v4, v5, v6, v7, v8, v9, v10, v11, v12, v13, v14, v15, v16, v17, v18, v19, v20, .int (nI pg), .int (nI ds), .ref z1, v24, v25, v26, v27])), (z1, zL E 41 f4)] H := hP
  have hD : va_D A [(y0, .inr (7, [.int 0, v1, v2, v3, v4, v5, v6, v7, v8, v9, v10, v11, v12, v13, v14, v15, v16, v17, v18, v19, v20, .int (nI pg), .int (nI ds), .ref z1, v24, v25, v26, v27])), (z1, zL E 41 f4)] := hD
  refine lv_iload_n hx hb d_Mo_tower_5 rfl (lv_at hl 1 rfl) ?_
  refine lv_iconst (v := 3) hx hb d_Mo_tower_6 (by decide) ?_
  refine lv_icmp_eq (tgt := 15) hx hb d_Mo_tower_7 (by decide) (fun c_45 => ?_) (fun c_45 => ?_)
  · refine lv_iload_n hx hb d_Mo_tower_15 rfl (lv_at hl 2 rfl) ?_
    refine lv_if_lt (tgt := 25) hx hb d_Mo_tower_16 (by decide) (fun c_46 => ?_) (fun c_46 => ?_)
    · exact absurd c_46 (nI_pos (by omega))
    · refine lv_iload_n hx hb d_Mo_tower_19 rfl (lv_at hl 2 rfl) ?_
      refine lv_bipush (v := 40) hx hb d_Mo_tower_20 (by decide) ?_
      refine lv_icmp_le (tgt := 29) hx hb d_Mo_tower_22 (by decide) (fun c_47 => ?_) (fun c_47 => ?_)
      · refine lv_aload_n hx hb d_Mo_tower_29 rfl (lv_at hl 0 rfl) ?_
        refine lv_iload_n hx hb d_Mo_tower_30 rfl (lv_at hl 1 rfl) ?_
        refine zz_put C hK hP hD hS fl_Mo_53 0 rfl rfl rfl (Nat.le_of_ble_eq_true rfl) d_Mo_tower_31 (fun H locs hP hD hS => ?_)
        have hP : va_P E.1 vwCl [(y0, .inr (7, [.int 0, v1, v2, v3, v4, v5, v6, v7, v8, v9, v10, v11, v12, v13, v14, v15, v16, v17, v18, v19, v20, .int (nI p2), .int (nI ds), .ref z1, v24, v25, v26, v27])), (z1, zL E 41 f4)] H := hP
        have hD : va_D A [(y0, .inr (7, [.int 0, v1, v2, v3, v4, v5, v6, v7, v8, v9, v10, v11, v12, v13, v14, v15, v16, v17, v18, v19, v20, .int (nI p2), .int (nI ds), .ref z1, v24, v25, v26, v27])), (z1, zL E 41 f4)] := hD
        refine lv_aload_n hx hb d_Mo_tower_34 rfl (lv_at hl 0 rfl) ?_
        refine lv_iload_n hx hb d_Mo_tower_35 rfl (lv_at hl 2 rfl) ?_
        refine zz_put C hK hP hD hS fl_Mo_137 0 rfl rfl rfl (Nat.le_of_ble_eq_true rfl) d_Mo_tower_36 (fun H locs hP hD hS => ?_)
        have hP : va_P E.1 vwCl [(y0, .inr (7, [.int 0, v1, v2, v3, v4, v5, v6, v7, v8, v9, v10, v11, v12, v13, v14, v15, v16, v17, v18, v19, v20, .int (nI p2), .int (nI d2), .ref z1, v24, v25, v26, v27])), (z1, zL E 41 f4)] H := hP
        have hD : va_D A [(y0, .inr (7, [.int 0, v1, v2, v3, v4, v5, v6, v7, v8, v9, v10, v11, v12, v13, v14, v15, v16, v17, v18, v19, v20, .int (nI p2), .int (nI d2), .ref z1, v24, v25, v26, v27])), (z1, zL E 41 f4)] := hD
        refine lv_aload_n hx hb d_Mo_tower_39 rfl (lv_at hl 0 rfl) ?_
        refine zz_gol (wr := []) [0, 1] [] rfl rfl (by decide) (by decide) hA hP hD hS (zz_runV (wc := [(y0, .inr (7, [.int 0, v1, v2, v3, v4, v5, v6, v7, v8, v9, v10, v11, v12, v13, v14, v15, v16, v17, v18, v19, v20, .int (nI p2), .int (nI d2), .ref z1, v24, v25, v26, v27])), (z1, zL E 41 f4)]) (As := []) (rest := []) C (c_Mo_all l E y0 v1 v2 v3 v4 v5 v6 v7 v8 v9 v10 v11 v12 v13 v14 v15 v16 v17 v18 v19 v20 v24 v25 v26 v27 0 z1 p2 d2 f4 hp hd hT) ym_Mo_all wd_ml_Mo_140 wd_im_Mo_all wd_se_Mo_all [0, 1] (by decide) rfl hA hK hst hP hD hS (ci := 7) (q0 := 0) rfl rfl rfl rfl hl.1 rfl (Nat.le_of_ble_eq_true rfl) ⟨Nat.le_of_ble_eq_true rfl, Nat.le_of_ble_eq_true rfl⟩ ⟨Nat.le_of_ble_eq_true rfl, Nat.le_of_ble_eq_true rfl⟩ d_Mo_tower_40) (fun r_48 u H locs hw hP hD hS => ?_)
        have hP : va_P E.1 vwCl [(y0, .inr (7, [.int 0, v1, v2, v3, v4, v5, v6, v7, v8, v9, v10, v11, v12, v13, v14, v15, v16, v17, v18, v19, v20, .int (nI p2), .int (nI d2), .ref z1, v24, v25, v26, v27])), (z1, zL E 41 f4)] H := hP
        have hD : va_D A [(y0, .inr (7, [.int 0, v1, v2, v3, v4, v5, v6, v7, v8, v9, v10, v11, v12, v13, v14, v15, v16, v17, v18, v19, v20, .int (nI p2), .int (nI d2), .ref z1, v24, v25, v26, v27])), (z1, zL E 41 f4)] := hD
        exact zz_retl C hS () (hw) hP hD d_Mo_tower_43
      · exact absurd (nI_le (b := 40) hd (by decide)) c_47
  · refine lv_iload_n hx hb d_Mo_tower_10 rfl (lv_at hl 1 rfl) ?_
    refine lv_iconst (v := 4) hx hb d_Mo_tower_11 (by decide) ?_
    refine lv_icmp_ne (tgt := 25) hx hb d_Mo_tower_12 (by decide) (fun c_49 => ?_) (fun c_49 => ?_)
    · exact absurd hp (fun h => h.elim (fun z => c_45 (by rw [z]; rfl)) (fun z => c_49 (by rw [z]; rfl)))
    · refine lv_iload_n hx hb d_Mo_tower_15 rfl (lv_at hl 2 rfl) ?_
      refine lv_if_lt (tgt := 25) hx hb d_Mo_tower_16 (by decide) (fun c_50 => ?_) (fun c_50 => ?_)
      · exact absurd c_50 (nI_pos (by omega))
      · refine lv_iload_n hx hb d_Mo_tower_19 rfl (lv_at hl 2 rfl) ?_
        refine lv_bipush (v := 40) hx hb d_Mo_tower_20 (by decide) ?_
        refine lv_icmp_le (tgt := 29) hx hb d_Mo_tower_22 (by decide) (fun c_51 => ?_) (fun c_51 => ?_)
        · refine lv_aload_n hx hb d_Mo_tower_29 rfl (lv_at hl 0 rfl) ?_
          refine lv_iload_n hx hb d_Mo_tower_30 rfl (lv_at hl 1 rfl) ?_
          refine zz_put C hK hP hD hS fl_Mo_53 0 rfl rfl rfl (Nat.le_of_ble_eq_true rfl) d_Mo_tower_31 (fun H locs hP hD hS => ?_)
          have hP : va_P E.1 vwCl [(y0, .inr (7, [.int 0, v1, v2, v3, v4, v5, v6, v7, v8, v9, v10, v11, v12, v13, v14, v15, v16, v17, v18, v19, v20, .int (nI p2), .int (nI ds), .ref z1, v24, v25, v26, v27])), (z1, zL E 41 f4)] H := hP
          have hD : va_D A [(y0, .inr (7, [.int 0, v1, v2, v3, v4, v5, v6, v7, v8, v9, v10, v11, v12, v13, v14, v15, v16, v17, v18, v19, v20, .int (nI p2), .int (nI ds), .ref z1, v24, v25, v26, v27])), (z1, zL E 41 f4)] := hD
          refine lv_aload_n hx hb d_Mo_tower_34 rfl (lv_at hl 0 rfl) ?_
          refine lv_iload_n hx hb d_Mo_tower_35 rfl (lv_at hl 2 rfl) ?_
          refine zz_put C hK hP hD hS fl_Mo_137 0 rfl rfl rfl (Nat.le_of_ble_eq_true rfl) d_Mo_tower_36 (fun H locs hP hD hS => ?_)
          have hP : va_P E.1 vwCl [(y0, .inr (7, [.int 0, v1, v2, v3, v4, v5, v6, v7, v8, v9, v10, v11, v12, v13, v14, v15, v16, v17, v18, v19, v20, .int (nI p2), .int (nI d2), .ref z1, v24, v25, v26, v27])), (z1, zL E 41 f4)] H := hP
          have hD : va_D A [(y0, .inr (7, [.int 0, v1, v2, v3, v4, v5, v6, v7, v8, v9, v10, v11, v12, v13, v14, v15, v16, v17, v18, v19, v20, .int (nI p2), .int (nI d2), .ref z1, v24, v25, v26, v27])), (z1, zL E 41 f4)] := hD
          refine lv_aload_n hx hb d_Mo_tower_39 rfl (lv_at hl 0 rfl) ?_
          refine zz_gol (wr := []) [0, 1] [] rfl rfl (by decide) (by decide) hA hP hD hS (zz_runV (wc := [(y0, .inr (7, [.int 0, v1, v2, v3, v4, v5, v6, v7, v8, v9, v10, v11, v12, v13, v14, v15, v16, v17, v18, v19, v20, .int (nI p2), .int (nI d2), .ref z1, v24, v25, v26, v27])), (z1, zL E 41 f4)]) (As := []) (rest := []) C (c_Mo_all l E y0 v1 v2 v3 v4 v5 v6 v7 v8 v9 v10 v11 v12 v13 v14 v15 v16 v17 v18 v19 v20 v24 v25 v26 v27 0 z1 p2 d2 f4 hp hd hT) ym_Mo_all wd_ml_Mo_140 wd_im_Mo_all wd_se_Mo_all [0, 1] (by decide) rfl hA hK hst hP hD hS (ci := 7) (q0 := 0) rfl rfl rfl rfl hl.1 rfl (Nat.le_of_ble_eq_true rfl) ⟨Nat.le_of_ble_eq_true rfl, Nat.le_of_ble_eq_true rfl⟩ ⟨Nat.le_of_ble_eq_true rfl, Nat.le_of_ble_eq_true rfl⟩ d_Mo_tower_40) (fun r_52 u H locs hw hP hD hS => ?_)
          have hP : va_P E.1 vwCl [(y0, .inr (7, [.int 0, v1, v2, v3, v4, v5, v6, v7, v8, v9, v10, v11, v12, v13, v14, v15, v16, v17, v18, v19, v20, .int (nI p2), .int (nI d2), .ref z1, v24, v25, v26, v27])), (z1, zL E 41 f4)] H := hP
          have hD : va_D A [(y0, .inr (7, [.int 0, v1, v2, v3, v4, v5, v6, v7, v8, v9, v10, v11, v12, v13, v14, v15, v16, v17, v18, v19, v20, .int (nI p2), .int (nI d2), .ref z1, v24, v25, v26, v27])), (z1, zL E 41 f4)] := hD
          exact zz_retl C hS () (hw) hP hD d_Mo_tower_43
        · exact absurd (nI_le (b := 40) hd (by decide)) c_51
