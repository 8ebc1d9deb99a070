set_option maxHeartbeats 4000000 in
set_option maxRecDepth 100000 in
theorem c_Mo_crossing_bad (l : Launch) (E : zG) (y0 : Nat) (v1 v2 v3 v4 v16 v21 v22 v23 v24 v25 v26 v27 : Value) (z5 z6 z7 w1 w2 w3 w4 w5 w6 w7 k : Nat) (fU fL fN f1 f2 fE fQ fP fA fB : Nat → Int32) (th sp tt bo mx : Int32) (hk : k ≤ 100) (mn : Nat) (hb0 : ¬ (cr_R (rt_u fU k) k).1 = -1) : zMet l y_Mo_crossing b_Mo_crossing 9 (some .int) 2 46 0 0 E [.ref y0] [(y0, .inr (7, [.int th, v1, v2, v3, v4, .int (nI k), .ref z5, .int sp, .ref w1, .ref w2, .ref w3, .ref w4, .ref w5, .ref w6, .ref w7, .int (nI mn), v16, .int tt, .int bo, .ref z6, .ref z7, v21, v22, v23, v24, v25, v26, v27])), (z5, zI E 100 fU), (z6, zI E 8 fL), (z7, zI E 8 fN), (w1, zI E 10000 f1), (w2, zI E 10000 f2), (w3, zI E 10000 fQ), (w4, zI E 10000 fP), (w5, zI E 10000 fA), (w6, zI E 10000 fB), (w7, zZ E 10000 fE)] (zQi E (S := (Nat → Int32) × (Nat → Int32) × Nat × Int32 × (Nat → Int32) × (Nat → Int32) × mU) (fun r _ => r = -2 - (cr_R (rt_u fU k) k).1) (fun u => [(y0, .inr (7, [.int 0, v1, v2, v3, v4, .int 0, .ref z5, .int 0, .ref w1, .ref w2, .ref w3, .ref w4, .ref w5, .ref w6, .ref w7, .int (nI u.2.2.2.2.2.2.2.2.2.2.2), v16, .int (nI u.2.2.1), .int u.2.2.2.1, .ref z6, .ref z7, v21, v22, v23, v24, v25, v26, v27])), (z5, zI E 100 fU), (z6, zI E 8 u.1), (z7, zI E 8 u.2.1), (w1, zI E 10000 u.2.2.2.2.1), (w2, zI E 10000 u.2.2.2.2.2.1), (w3, zI E 10000 u.2.2.2.2.2.2.2.1), (w4, zI E 10000 u.2.2.2.2.2.2.2.2.1), (w5, zI E 10000 u.2.2.2.2.2.2.2.2.2.1), (w6, zI E 10000 u.2.2.2.2.2.2.2.2.2.2.1), (w7, zZ E 10000 u.2.2.2.2.2.2.1)])) := by
  refine zz_met (by decide +kernel) (Nat.le_of_ble_eq_true rfl) ?_
  intro p e s m below meth c A ls C hin hA hK hst hP hD hl
  obtain ⟨hx, hb, hr, hml, hown, hts, hlk⟩ := id C
  have hS : va_S A s.heap s.heap [] := va_S.rf
  have hl : lv_has ls 9 [(0, .ref y0)] := hl
  refine lv_aload_n hx hb d_Mo_crossing_0 rfl (lv_at hl 0 rfl) ?_
  refine lv_iconst (v := 0) hx hb d_Mo_crossing_1 (by decide) ?_
  refine zz_put C hK hP hD hS fl_Mo_72 0 rfl rfl rfl (Nat.le_of_ble_eq_true rfl) d_Mo_crossing_2 (fun H locs hP hD hS => ?_)
  have hP : va_P E.1 vwCl [(y0, .inr (7, [.int 0, v1, v2, v3, v4, .int (nI k), .ref z5, .int sp, .ref w1, .ref w2, .ref w3, .ref w4, .ref w5, .ref w6, .ref w7, .int (nI mn), v16, .int tt, .int bo, .ref z6, .ref z7, v21, v22, v23, v24, v25, v26, v27])), (z5, zI E 100 fU), (z6, zI E 8 fL), (z7, zI E 8 fN), (w1, zI E 10000 f1), (w2, zI E 10000 f2), (w3, zI E 10000 fQ), (w4, zI E 10000 fP), (w5, zI E 10000 fA), (w6, zI E 10000 fB), (w7, zZ E 10000 fE)] H := hP
  have hD : va_D A [(y0, .inr (7, [.int 0, v1, v2, v3, v4, .int (nI k), .ref z5, .int sp, .ref w1, .ref w2, .ref w3, .ref w4, .ref w5, .ref w6, .ref w7, .int (nI mn), v16, .int tt, .int bo, .ref z6, .ref z7, v21, v22, v23, v24, v25, v26, v27])), (z5, zI E 100 fU), (z6, zI E 8 fL), (z7, zI E 8 fN), (w1, zI E 10000 f1), (w2, zI E 10000 f2), (w3, zI E 10000 fQ), (w4, zI E 10000 fP), (w5, zI E 10000 fA), (w6, zI E 10000 fB), (w7, zZ E 10000 fE)] := hD
  refine lv_aload_n hx hb d_Mo_crossing_5 rfl (lv_at hl 0 rfl) ?_
  refine lv_iconst (v := 0) hx hb d_Mo_crossing_6 (by decide) ?_
  refine zz_put C hK hP hD hS fl_Mo_78 0 rfl rfl rfl (Nat.le_of_ble_eq_true rfl) d_Mo_crossing_7 (fun H locs hP hD hS => ?_)
  have hP : va_P E.1 vwCl [(y0, .inr (7, [.int 0, v1, v2, v3, v4, .int (nI k), .ref z5, .int 0, .ref w1, .ref w2, .ref w3, .ref w4, .ref w5, .ref w6, .ref w7, .int (nI mn), v16, .int tt, .int bo, .ref z6, .ref z7, v21, v22, v23, v24, v25, v26, v27])), (z5, zI E 100 fU), (z6, zI E 8 fL), (z7, zI E 8 fN), (w1, zI E 10000 f1), (w2, zI E 10000 f2), (w3, zI E 10000 fQ), (w4, zI E 10000 fP), (w5, zI E 10000 fA), (w6, zI E 10000 fB), (w7, zZ E 10000 fE)] H := hP
  have hD : va_D A [(y0, .inr (7, [.int 0, v1, v2, v3, v4, .int (nI k), .ref z5, .int 0, .ref w1, .ref w2, .ref w3, .ref w4, .ref w5, .ref w6, .ref w7, .int (nI mn), v16, .int tt, .int bo, .ref z6, .ref z7, v21, v22, v23, v24, v25, v26, v27])), (z5, zI E 100 fU), (z6, zI E 8 fL), (z7, zI E 8 fN), (w1, zI E 10000 f1), (w2, zI E 10000 f2), (w3, zI E 10000 fQ), (w4, zI E 10000 fP), (w5, zI E 10000 fA), (w6, zI E 10000 fB), (w7, zZ E 10000 fE)] := hD
  refine lv_aload_n hx hb d_Mo_crossing_10 rfl (lv_at hl 0 rfl) ?_
  refine zz_goi (wr := [(w1, zI E 10000 f1), (w2, zI E 10000 f2), (w3, zI E 10000 fQ), (w4, zI E 10000 fP), (w5, zI E 10000 fA), (w6, zI E 10000 fB), (w7, zZ E 10000 fE)]) [0, 1, 2, 3] [4, 5, 6, 7, 8, 9, 10] rfl rfl (by decide) (by decide) hA hP hD hS (zz_runV (wc := [(y0, .inr (7, [.int 0, v1, v2, v3, v4, .int (nI k), .ref z5, .int 0, .ref w1, .ref w2, .ref w3, .ref w4, .ref w5, .ref w6, .ref w7, .int (nI mn), v16, .int tt, .int bo, .ref z6, .ref z7, v21, v22, v23, v24, v25, v26, v27])), (z5, zI E 100 fU), (z6, zI E 8 fL), (z7, zI E 8 fN)]) (As := []) (rest := []) C (c_Mo_parse l E y0 (.int 0) v1 v2 v3 v4 (.int 0) (.ref w1) (.ref w2) (.ref w3) (.ref w4) (.ref w5) (.ref w6) (.ref w7) (.int (nI mn)) v16 v21 v22 v23 v24 v25 v26 v27 z5 z6 z7 k fU fL fN tt bo hk) ym_Mo_parse wd_ml_Mo_126 wd_im_Mo_parse wd_se_Mo_parse [0, 1, 2, 3] (by decide) rfl hA hK hst hP hD hS (ci := 7) (q0 := 0) rfl rfl rfl rfl hl.1 rfl (Nat.le_of_ble_eq_true rfl) ⟨Nat.le_of_ble_eq_true rfl, Nat.le_of_ble_eq_true rfl⟩ ⟨Nat.le_of_ble_eq_true rfl, Nat.le_of_ble_eq_true rfl⟩ d_Mo_crossing_11) (fun r1 u1 H locs hw1 hP hD hS => ?_)
  have hP : va_P E.1 vwCl [(w1, zI E 10000 f1), (w2, zI E 10000 f2), (w3, zI E 10000 fQ), (w4, zI E 10000 fP), (w5, zI E 10000 fA), (w6, zI E 10000 fB), (w7, zZ E 10000 fE), (y0, .inr (7, [.int 0, v1, v2, v3, v4, .int (nI k), .ref z5, .int 0, .ref w1, .ref w2, .ref w3, .ref w4, .ref w5, .ref w6, .ref w7, .int (nI mn), v16, .int (nI u1.2.2.1), .int u1.2.2.2, .ref z6, .ref z7, v21, v22, v23, v24, v25, v26, v27])), (z5, zI E 100 fU), (z6, zI E 8 u1.1), (z7, zI E 8 u1.2.1)] H := hP
  have hD : va_D A [(w1, zI E 10000 f1), (w2, zI E 10000 f2), (w3, zI E 10000 fQ), (w4, zI E 10000 fP), (w5, zI E 10000 fA), (w6, zI E 10000 fB), (w7, zZ E 10000 fE), (y0, .inr (7, [.int 0, v1, v2, v3, v4, .int (nI k), .ref z5, .int 0, .ref w1, .ref w2, .ref w3, .ref w4, .ref w5, .ref w6, .ref w7, .int (nI mn), v16, .int (nI u1.2.2.1), .int u1.2.2.2, .ref z6, .ref z7, v21, v22, v23, v24, v25, v26, v27])), (z5, zI E 100 fU), (z6, zI E 8 u1.1), (z7, zI E 8 u1.2.1)] := hD
  have hP := hP.sub (ws' := [(y0, .inr (7, [.int 0, v1, v2, v3, v4, .int (nI k), .ref z5, .int 0, .ref w1, .ref w2, .ref w3, .ref w4, .ref w5, .ref w6, .ref w7, .int (nI mn), v16, .int (nI u1.2.2.1), .int u1.2.2.2, .ref z6, .ref z7, v21, v22, v23, v24, v25, v26, v27])), (z5, zI E 100 fU), (z6, zI E 8 u1.1), (z7, zI E 8 u1.2.1), (w1, zI E 10000 f1), (w2, zI E 10000 f2), (w3, zI E 10000 fQ), (w4, zI E 10000 fP), (w5, zI E 10000 fA), (w6, zI E 10000 fB), (w7, zZ E 10000 fE)]) [7, 8, 9, 10, 0, 1, 2, 3, 4, 5, 6] rfl
  have hD := hD.sub (ws' := [(y0, .inr (7, [.int 0, v1, v2, v3, v4, .int (nI k), .ref z5, .int 0, .ref w1, .ref w2, .ref w3, .ref w4, .ref w5, .ref w6, .ref w7, .int (nI mn), v16, .int (nI u1.2.2.1), .int u1.2.2.2, .ref z6, .ref z7, v21, v22, v23, v24, v25, v26, v27])), (z5, zI E 100 fU), (z6, zI E 8 u1.1), (z7, zI E 8 u1.2.1), (w1, zI E 10000 f1), (w2, zI E 10000 f2), (w3, zI E 10000 fQ), (w4, zI E 10000 fP), (w5, zI E 10000 fA), (w6, zI E 10000 fB), (w7, zZ E 10000 fE)]) [7, 8, 9, 10, 0, 1, 2, 3, 4, 5, 6] (by decide) rfl
  obtain ⟨e1, e2, e3⟩ := mo_cr hw1
  refine lv_istore_n (lv' := [(1, .int r1), (0, .ref y0)]) hx hb d_Mo_crossing_14 rfl hl (by decide) rfl (fun ls hl => ?_)
  refine lv_aload_n hx hb d_Mo_crossing_15 rfl (lv_at hl 1 rfl) ?_
  refine lv_iconst (v := 0) hx hb d_Mo_crossing_16 (by decide) ?_
  refine zz_put C hK hP hD hS fl_Mo_111 0 rfl rfl rfl (Nat.le_of_ble_eq_true rfl) d_Mo_crossing_17 (fun H locs hP hD hS => ?_)
  have hP : va_P E.1 vwCl [(y0, .inr (7, [.int 0, v1, v2, v3, v4, .int 0, .ref z5, .int 0, .ref w1, .ref w2, .ref w3, .ref w4, .ref w5, .ref w6, .ref w7, .int (nI mn), v16, .int (nI u1.2.2.1), .int u1.2.2.2, .ref z6, .ref z7, v21, v22, v23, v24, v25, v26, v27])), (z5, zI E 100 fU), (z6, zI E 8 u1.1), (z7, zI E 8 u1.2.1), (w1, zI E 10000 f1), (w2, zI E 10000 f2), (w3, zI E 10000 fQ), (w4, zI E 10000 fP), (w5, zI E 10000 fA), (w6, zI E 10000 fB), (w7, zZ E 10000 fE)] H := hP
  have hD : va_D A [(y0, .inr (7, [.int 0, v1, v2, v3, v4, .int 0, .ref z5, .int 0, .ref w1, .ref w2, .ref w3, .ref w4, .ref w5, .ref w6, .ref w7, .int (nI mn), v16, .int (nI u1.2.2.1), .int u1.2.2.2, .ref z6, .ref z7, v21, v22, v23, v24, v25, v26, v27])), (z5, zI E 100 fU), (z6, zI E 8 u1.1), (z7, zI E 8 u1.2.1), (w1, zI E 10000 f1), (w2, zI E 10000 f2), (w3, zI E 10000 fQ), (w4, zI E 10000 fP), (w5, zI E 10000 fA), (w6, zI E 10000 fB), (w7, zZ E 10000 fE)] := hD
  refine lv_iload_n hx hb d_Mo_crossing_20 rfl (lv_at hl 0 rfl) ?_
  refine lv_if_lt (tgt := 29) hx hb d_Mo_crossing_21 (by decide) (fun c_1 => ?_) (fun c_1 => ?_)
  · have hnn : ¬ r1 < 0 := by
      rw [e1]
      rcases cr_R_or (rt_u fU k) k with q | ⟨j, q1, q2⟩
      · exact absurd q hb0
      · rw [q2]; exact nI_pos (by omega)
    exact absurd c_1 hnn
  · refine lv_bipush (v := (-2)) hx hb d_Mo_crossing_24 (by decide) ?_
    refine lv_iload_n hx hb d_Mo_crossing_26 rfl (lv_at hl 0 rfl) ?_
    refine lv_isub hx hb d_Mo_crossing_27 ?_
    exact zz_reti C (rfl) hS (u1.1, u1.2.1, u1.2.2.1, u1.2.2.2, f1, f2, fE, fQ, fP, fA, fB, mn) (by rw [e1]) hP hD d_Mo_crossing_28

set_option maxHeartbeats 4000000 in
set_option maxRecDepth 100000 in
theorem lp_Mo_cr0 {p : Program} {l : Launch} {e : Env} {s : State} {m : MethodId} {below : List Frame} {meth : Method} {c : Code} {A : Nat → Prop}  {E : zG} {y0 : Nat} {v1 v2 v3 v4 v16 v21 v22 v23 v24 v25 v26 v27 : Value} {z5 z6 z7 w1 w2 w3 w4 w5 w6 w7 k : Nat} {fU fL fN f1 f2 : Nat → Int32} {tn bt : Nat} {nw : Nat → Nat} {wr : Int32} (et : (cr_T (rt_u fU k)).2.2 = tn) (en : (cr_nw (rt_u fU k) k) = nw) (eb : (cr_bt (rt_u fU k) k) = bt) (ht : tn ≤ 8) (hbt : bt ≤ 3) (hN : ∀ j, j < 8 → fN j = nI (nw j) ∧ nw j < 256) {n x : Nat} (hx5 : x < 512) (hxf : x % 256 < 2 ^ tn) (hxs : x < 256) {T : bS} (C : cx p s m #[.ref y0] meth c b_Mo_crossing 9 y_Mo_crossing.cls (some .int)) (hA : ∀ q, s.heap.size ≤ q → A q) (hK : kt E s) (hst : stt A s s.heap) :
    ∀ (f t : Nat) (fE fQ fP fA fB : Nat → Int32) (S : bS) (_ : t + f = 2 ^ tn) (_ : mo_go nw bt x (rv_bank tn x) 256 f t S = T) (_ : mo_I 512 n x (fun y => y < 512 ∧ y % 256 < 2 ^ tn) mo_phi S fE fQ fP) (kk : ∀ (fE fQ fP fA fB : Nat → Int32) (H : Heap) (locs : List Loc) (ls : Array Slot), mo_I 512 n x (fun y => y < 512 ∧ y % 256 < 2 ^ tn) mo_phi T fE fQ fP → va_P E.1 vwCl [(y0, .inr (7, [.int 0, v1, v2, v3, v4, .int 0, .ref z5, .int 0, .ref w1, .ref w2, .ref w3, .ref w4, .ref w5, .ref w6, .ref w7, .int (nI T.2.length), v16, .int (nI tn), .int (nI bt), .ref z6, .ref z7, v21, v22, v23, v24, v25, v26, v27])), (z5, zI E 100 fU), (z6, zI E 8 fL), (z7, zI E 8 fN), (w1, zI E 10000 f1), (w2, zI E 10000 f2), (w3, zI E 10000 fQ), (w4, zI E 10000 fP), (w5, zI E 10000 fA), (w6, zI E 10000 fB), (w7, zZ E 10000 fE)] H → va_D A [(y0, .inr (7, [.int 0, v1, v2, v3, v4, .int 0, .ref z5, .int 0, .ref w1, .ref w2, .ref w3, .ref w4, .ref w5, .ref w6, .ref w7, .int (nI T.2.length), v16, .int (nI tn), .int (nI bt), .ref z6, .ref z7, v21, v22, v23, v24, v25, v26, v27])), (z5, zI E 100 fU), (z6, zI E 8 fL), (z7, zI E 8 fN), (w1, zI E 10000 f1), (w2, zI E 10000 f2), (w3, zI E 10000 fQ), (w4, zI E 10000 fP), (w5, zI E 10000 fA), (w6, zI E 10000 fB), (w7, zZ E 10000 fE)] → va_S A s.heap H locs → lv_has ls 9 [(0, .ref y0), (1, .int wr), (2, .int (nI (2 ^ tn - 1))), (3, .int (nI n))] → W p l e (zR 2 46 0 0) s m #[.ref y0] below meth c H locs 0 0 (MQ below ((zQi E (S := (Nat → Int32) × (Nat → Int32) × Nat × Int32 × (Nat → Int32) × (Nat → Int32) × mU) (fun r _ => r = bfs_A (rv_RUN (cr_T (rt_u fU k)).2.2 (cr_nw (rt_u fU k) k) (cr_bt (rt_u fU k) k))) (fun u => [(y0, .inr (7, [.int 0, v1, v2, v3, v4, .int 0, .ref z5, .int (nI (bfs_L (rv_RUN (cr_T (rt_u fU k)).2.2 (cr_nw (rt_u fU k) k) (cr_bt (rt_u fU k) k)))), .ref w1, .ref w2, .ref w3, .ref w4, .ref w5, .ref w6, .ref w7, .int (nI u.2.2.2.2.2.2.2.2.2.2.2), v16, .int (nI u.2.2.1), .int u.2.2.2.1, .ref z6, .ref z7, v21, v22, v23, v24, v25, v26, v27])), (z5, zI E 100 fU), (z6, zI E 8 u.1), (z7, zI E 8 u.2.1), (w1, zI E 10000 u.2.2.2.2.1), (w2, zI E 10000 u.2.2.2.2.2.1), (w3, zI E 10000 u.2.2.2.2.2.2.2.1), (w4, zI E 10000 u.2.2.2.2.2.2.2.2.1), (w5, zI E 10000 u.2.2.2.2.2.2.2.2.2.1), (w6, zI E 10000 u.2.2.2.2.2.2.2.2.2.2.1), (w7, zZ E 10000 u.2.2.2.2.2.2.1)])) A) #[.ref y0] s 0 0 A) (F0 m 198 ls [])) (H : Heap) (locs : List Loc) (ls : Array Slot), va_P E.1 vwCl [(y0, .inr (7, [.int 0, v1, v2, v3, v4, .int 0, .ref z5, .int 0, .ref w1, .ref w2, .ref w3, .ref w4, .ref w5, .ref w6, .ref w7, .int (nI S.2.length), v16, .int (nI tn), .int (nI bt), .ref z6, .ref z7, v21, v22, v23, v24, v25, v26, v27])), (z5, zI E 100 fU), (z6, zI E 8 fL), (z7, zI E 8 fN), (w1, zI E 10000 f1), (w2, zI E 10000 f2), (w3, zI E 10000 fQ), (w4, zI E 10000 fP), (w5, zI E 10000 fA), (w6, zI E 10000 fB), (w7, zZ E 10000 fE)] H → va_D A [(y0, .inr (7, [.int 0, v1, v2, v3, v4, .int 0, .ref z5, .int 0, .ref w1, .ref w2, .ref w3, .ref w4, .ref w5, .ref w6, .ref w7, .int (nI S.2.length), v16, .int (nI tn), .int (nI bt), .ref z6, .ref z7, v21, v22, v23, v24, v25, v26, v27])), (z5, zI E 100 fU), (z6, zI E 8 fL), (z7, zI E 8 fN), (w1, zI E 10000 f1), (w2, zI E 10000 f2), (w3, zI E 10000 fQ), (w4, zI E 10000 fP), (w5, zI E 10000 fA), (w6, zI E 10000 fB), (w7, zZ E 10000 fE)] → va_S A s.heap H locs → lv_has ls 9 [(0, .ref y0), (1, .int wr), (2, .int (nI (2 ^ tn - 1))), (3, .int (nI n)), (4, .int (nI (x % 256))), (5, .int 0), (6, .int (nI (rv_bank tn x))), (7, .int (nI t))] → W p l e (zR 2 46 0 0) s m #[.ref y0] below meth c H locs 0 0 (MQ below ((zQi E (S := (Nat → Int32) × (Nat → Int32) × Nat × Int32 × (Nat → Int32) × (Nat → Int32) × mU) (fun r _ => r = bfs_A (rv_RUN (cr_T (rt_u fU k)).2.2 (cr_nw (rt_u fU k) k) (cr_bt (rt_u fU k) k))) (fun u => [(y0, .inr (7, [.int 0, v1, v2, v3, v4, .int 0, .ref z5, .int (nI (bfs_L (rv_RUN (cr_T (rt_u fU k)).2.2 (cr_nw (rt_u fU k) k) (cr_bt (rt_u fU k) k)))), .ref w1, .ref w2, .ref w3, .ref w4, .ref w5, .ref w6, .ref w7, .int (nI u.2.2.2.2.2.2.2.2.2.2.2), v16, .int (nI u.2.2.1), .int u.2.2.2.1, .ref z6, .ref z7, v21, v22, v23, v24, v25, v26, v27])), (z5, zI E 100 fU), (z6, zI E 8 u.1), (z7, zI E 8 u.2.1), (w1, zI E 10000 u.2.2.2.2.1), (w2, zI E 10000 u.2.2.2.2.2.1), (w3, zI E 10000 u.2.2.2.2.2.2.2.1), (w4, zI E 10000 u.2.2.2.2.2.2.2.2.1), (w5, zI E 10000 u.2.2.2.2.2.2.2.2.2.1), (w6, zI E 10000 u.2.2.2.2.2.2.2.2.2.2.1), (w7, zZ E 10000 u.2.2.2.2.2.2.1)])) A) #[.ref y0] s 0 0 A) (F0 m 115 ls []) := by
  obtain ⟨hx, hb, hr, hml, hown, hts, hlk⟩ := id C
  have hpw : 2 ^ tn ≤ 256 := Nat.le_trans (Nat.pow_le_pow_right (by decide) ht) (by decide : 2 ^ 8 ≤ 256)
  have hp1 : 0 < 2 ^ tn := Nat.two_pow_pos tn
  have hbk : rv_bank tn x < 2 ^ tn := by
    have := rv_bank_le (tn := tn) (x := x) hxf
    omega
  intro f
  induction f with
  | zero =>
    intro t fE fQ fP fA fB S hf hgo hI kk H locs ls hP hD hS hl
    have hgo : S = T := hgo
    refine lv_iload hx hb d_Mo_crossing_115 (lv_at hl 7 rfl) ?_
    refine lv_iload_n hx hb d_Mo_crossing_117 rfl (lv_at hl 2 rfl) ?_
    refine lv_icmp_gt (tgt := 198) hx hb d_Mo_crossing_118 (by decide) (fun c_2 => ?_) (fun c_2 => ?_)
    · have hP : va_P E.1 vwCl [(y0, .inr (7, [.int 0, v1, v2, v3, v4, .int 0, .ref z5, .int 0, .ref w1, .ref w2, .ref w3, .ref w4, .ref w5, .ref w6, .ref w7, .int (nI T.2.length), v16, .int (nI tn), .int (nI bt), .ref z6, .ref z7, v21, v22, v23, v24, v25, v26, v27])), (z5, zI E 100 fU), (z6, zI E 8 fL), (z7, zI E 8 fN), (w1, zI E 10000 f1), (w2, zI E 10000 f2), (w3, zI E 10000 fQ), (w4, zI E 10000 fP), (w5, zI E 10000 fA), (w6, zI E 10000 fB), (w7, zZ E 10000 fE)] H := by
        have h9 := hP
        rw [hgo] at h9
        exact h9
      have hD : va_D A [(y0, .inr (7, [.int 0, v1, v2, v3, v4, .int 0, .ref z5, .int 0, .ref w1, .ref w2, .ref w3, .ref w4, .ref w5, .ref w6, .ref w7, .int (nI T.2.length), v16, .int (nI tn), .int (nI bt), .ref z6, .ref z7, v21, v22, v23, v24, v25, v26, v27])), (z5, zI E 100 fU), (z6, zI E 8 fL), (z7, zI E 8 fN), (w1, zI E 10000 f1), (w2, zI E 10000 f2), (w3, zI E 10000 fQ), (w4, zI E 10000 fP), (w5, zI E 10000 fA), (w6, zI E 10000 fB), (w7, zZ E 10000 fE)] := by
        have h9 := hD
        rw [hgo] at h9
        exact h9
      rw [hgo] at hI
      exact kk fE fQ fP fA fB _ _ ls hI hP hD hS (lv_sub hl [0, 1, 2, 3] rfl)
    · exact absurd (nI_lt (show 2 ^ tn - 1 < t by omega) (by omega)) c_2
  | succ f ih =>
    intro t fE fQ fP fA fB S hf hgo hI kk H locs ls hP hD hS hl
    have ht2 : t < 256 := by omega
    have hwl : rv_wo t (rv_bank tn x) < 256 := rv_wo_lt ht2
    refine lv_iload hx hb d_Mo_crossing_115 (lv_at hl 7 rfl) ?_
    refine lv_iload_n hx hb d_Mo_crossing_117 rfl (lv_at hl 2 rfl) ?_
    refine lv_icmp_gt (tgt := 198) hx hb d_Mo_crossing_118 (by decide) (fun c_3 => ?_) (fun c_3 => ?_)
    · exact absurd c_3 (nI_nlt (by omega) (by omega))
    · refine lv_iload hx hb d_Mo_crossing_121 (lv_at hl 7 rfl) ?_
      refine lv_iload hx hb d_Mo_crossing_123 (lv_at hl 6 rfl) ?_
      refine lv_iconst (v := (-1)) hx hb d_Mo_crossing_125 (by decide) ?_
      refine lv_ixor hx hb d_Mo_crossing_126 ?_
      refine lv_iand hx hb d_Mo_crossing_127 ?_
      refine zz_eqi (y := nI (rv_wo t (rv_bank tn x))) (rv_woE ht2) ?_
      refine lv_if_ne (tgt := 192) hx hb d_Mo_crossing_128 (by decide) (fun c_4 => ?_) (fun c_4 => ?_)
      · have hgo2 : mo_go nw bt x (rv_bank tn x) 256 f (t + 1) S = T := by rw [← hgo, mo_go, if_neg (fun z => c_4 (by rw [z.1]; rfl))]
        refine lv_iinc (v := nI (t + 1)) (lv' := [(7, .int (nI (t + 1))), (0, .ref y0), (1, .int wr), (2, .int (nI (2 ^ tn - 1))), (3, .int (nI n)), (4, .int (nI (x % 256))), (5, .int 0), (6, .int (nI (rv_bank tn x)))]) hx hb d_Mo_crossing_192 hl (k := 7) rfl (nI_1 _) (by decide) rfl (fun ls hl => ?_)
        refine lv_goto (tgt := 115) hx hb d_Mo_crossing_195 (by decide) ?_
        exact ih (t + 1) fE fQ fP fA fB S (by omega) hgo2 hI kk _ _ ls hP hD hS (lv_sub hl [1, 2, 3, 4, 5, 6, 7, 0] rfl)
      · have hw0 : rv_wo t (rv_bank tn x) = 0 := zz_nI0 c_4 (by omega)
        have hpl := rv_pop_le t
        refine lv_aload_n hx hb d_Mo_crossing_131 rfl (lv_at hl 0 rfl) ?_
        refine lv_iload hx hb d_Mo_crossing_132 (lv_at hl 7 rfl) ?_
        refine zz_goi (wr := [(z5, zI E 100 fU), (z6, zI E 8 fL), (z7, zI E 8 fN), (w1, zI E 10000 f1), (w2, zI E 10000 f2), (w3, zI E 10000 fQ), (w4, zI E 10000 fP), (w5, zI E 10000 fA), (w6, zI E 10000 fB), (w7, zZ E 10000 fE)]) [0] [1, 2, 3, 4, 5, 6, 7, 8, 9, 10] rfl rfl (by decide) (by decide) hA hP hD hS (zz_runV (wc := [(y0, .inr (7, [.int 0, v1, v2, v3, v4, .int 0, .ref z5, .int 0, .ref w1, .ref w2, .ref w3, .ref w4, .ref w5, .ref w6, .ref w7, .int (nI S.2.length), v16, .int (nI tn), .int (nI bt), .ref z6, .ref z7, v21, v22, v23, v24, v25, v26, v27]))]) (As := [.int (nI t)]) (rest := []) C (c_Mo_countOf l E y0 (.int 0) v1 v2 v3 v4 (.int 0) (.ref z5) (.int 0) (.ref w1) (.ref w2) (.ref w3) (.ref w4) (.ref w5) (.ref w6) (.ref w7) (.int (nI S.2.length)) v16 (.int (nI tn)) (.int (nI bt)) (.ref z6) (.ref z7) v21 v22 v23 v24 v25 v26 v27 t ht2) ym_Mo_countOf wd_ml_Mo_129 wd_im_Mo_countOf wd_se_Mo_countOf [0] (by decide) rfl hA hK hst hP hD hS (ci := 7) (q0 := 0) rfl rfl rfl rfl hl.1 rfl (Nat.le_of_ble_eq_true rfl) ⟨Nat.le_of_ble_eq_true rfl, Nat.le_of_ble_eq_true rfl⟩ ⟨Nat.le_of_ble_eq_true rfl, Nat.le_of_ble_eq_true rfl⟩ d_Mo_crossing_134) (fun r_5 u H locs hct hP hD hS => ?_)
        have hP : va_P E.1 vwCl [(z5, zI E 100 fU), (z6, zI E 8 fL), (z7, zI E 8 fN), (w1, zI E 10000 f1), (w2, zI E 10000 f2), (w3, zI E 10000 fQ), (w4, zI E 10000 fP), (w5, zI E 10000 fA), (w6, zI E 10000 fB), (w7, zZ E 10000 fE), (y0, .inr (7, [.int 0, v1, v2, v3, v4, .int 0, .ref z5, .int 0, .ref w1, .ref w2, .ref w3, .ref w4, .ref w5, .ref w6, .ref w7, .int (nI S.2.length), v16, .int (nI tn), .int (nI bt), .ref z6, .ref z7, v21, v22, v23, v24, v25, v26, v27]))] H := hP
        have hD : va_D A [(z5, zI E 100 fU), (z6, zI E 8 fL), (z7, zI E 8 fN), (w1, zI E 10000 f1), (w2, zI E 10000 f2), (w3, zI E 10000 fQ), (w4, zI E 10000 fP), (w5, zI E 10000 fA), (w6, zI E 10000 fB), (w7, zZ E 10000 fE), (y0, .inr (7, [.int 0, v1, v2, v3, v4, .int 0, .ref z5, .int 0, .ref w1, .ref w2, .ref w3, .ref w4, .ref w5, .ref w6, .ref w7, .int (nI S.2.length), v16, .int (nI tn), .int (nI bt), .ref z6, .ref z7, v21, v22, v23, v24, v25, v26, v27]))] := hD
        subst hct
        have hP := hP.sub (ws' := [(y0, .inr (7, [.int 0, v1, v2, v3, v4, .int 0, .ref z5, .int 0, .ref w1, .ref w2, .ref w3, .ref w4, .ref w5, .ref w6, .ref w7, .int (nI S.2.length), v16, .int (nI tn), .int (nI bt), .ref z6, .ref z7, v21, v22, v23, v24, v25, v26, v27])), (z5, zI E 100 fU), (z6, zI E 8 fL), (z7, zI E 8 fN), (w1, zI E 10000 f1), (w2, zI E 10000 f2), (w3, zI E 10000 fQ), (w4, zI E 10000 fP), (w5, zI E 10000 fA), (w6, zI E 10000 fB), (w7, zZ E 10000 fE)]) [10, 0, 1, 2, 3, 4, 5, 6, 7, 8, 9] rfl
        have hD := hD.sub (ws' := [(y0, .inr (7, [.int 0, v1, v2, v3, v4, .int 0, .ref z5, .int 0, .ref w1, .ref w2, .ref w3, .ref w4, .ref w5, .ref w6, .ref w7, .int (nI S.2.length), v16, .int (nI tn), .int (nI bt), .ref z6, .ref z7, v21, v22, v23, v24, v25, v26, v27])), (z5, zI E 100 fU), (z6, zI E 8 fL), (z7, zI E 8 fN), (w1, zI E 10000 f1), (w2, zI E 10000 f2), (w3, zI E 10000 fQ), (w4, zI E 10000 fP), (w5, zI E 10000 fA), (w6, zI E 10000 fB), (w7, zZ E 10000 fE)]) [10, 0, 1, 2, 3, 4, 5, 6, 7, 8, 9] (by decide) rfl
        refine lv_aload_n hx hb d_Mo_crossing_137 rfl (lv_at hl 0 rfl) ?_
        refine zz_get C hK hP fl_Mo_123 0 rfl rfl d_Mo_crossing_138 ?_
        refine lv_icmp_gt (tgt := 192) hx hb d_Mo_crossing_141 (by decide) (fun c_6 => ?_) (fun c_6 => ?_)
        · have hgo2 : mo_go nw bt x (rv_bank tn x) 256 f (t + 1) S = T := by rw [← hgo, mo_go, if_neg (fun z => absurd c_6 (nI_nlt z.2.1 (by omega)))]
          refine lv_iinc (v := nI (t + 1)) (lv' := [(7, .int (nI (t + 1))), (0, .ref y0), (1, .int wr), (2, .int (nI (2 ^ tn - 1))), (3, .int (nI n)), (4, .int (nI (x % 256))), (5, .int 0), (6, .int (nI (rv_bank tn x)))]) hx hb d_Mo_crossing_192 hl (k := 7) rfl (nI_1 _) (by decide) rfl (fun ls hl => ?_)
          refine lv_goto (tgt := 115) hx hb d_Mo_crossing_195 (by decide) ?_
          exact ih (t + 1) fE fQ fP fA fB S (by omega) hgo2 hI kk _ _ ls hP hD hS (lv_sub hl [1, 2, 3, 4, 5, 6, 7, 0] rfl)
        · have hpp : rv_pop t ≤ bt := Nat.le_of_not_lt (fun z => c_6 (nI_lt z (by omega)))
          refine lv_aload_n hx hb d_Mo_crossing_144 rfl (lv_at hl 0 rfl) ?_
          refine lv_iload hx hb d_Mo_crossing_145 (lv_at hl 6 rfl) ?_
          refine lv_iload hx hb d_Mo_crossing_147 (lv_at hl 7 rfl) ?_
          refine lv_iconst (v := (-1)) hx hb d_Mo_crossing_149 (by decide) ?_
          refine lv_ixor hx hb d_Mo_crossing_150 ?_
          refine lv_iand hx hb d_Mo_crossing_151 ?_
          refine zz_eqi (y := nI (rv_wo (rv_bank tn x) t)) (rv_woE (by omega)) ?_
          have hst2 := mo_stay (nw := nw) ht (rv_wo_lt2 (t := t) hbk)
          refine zz_goi (wr := [(z5, zI E 100 fU), (z6, zI E 8 fL), (w1, zI E 10000 f1), (w2, zI E 10000 f2), (w3, zI E 10000 fQ), (w4, zI E 10000 fP), (w5, zI E 10000 fA), (w6, zI E 10000 fB), (w7, zZ E 10000 fE)]) [0, 3] [1, 2, 4, 5, 6, 7, 8, 9, 10] rfl rfl (by decide) (by decide) hA hP hD hS (zz_runV (wc := [(y0, .inr (7, [.int 0, v1, v2, v3, v4, .int 0, .ref z5, .int 0, .ref w1, .ref w2, .ref w3, .ref w4, .ref w5, .ref w6, .ref w7, .int (nI S.2.length), v16, .int (nI tn), .int (nI bt), .ref z6, .ref z7, v21, v22, v23, v24, v25, v26, v27])), (z7, zI E 8 fN)]) (As := [.int (nI (rv_wo (rv_bank tn x) t))]) (rest := []) C (c_Mo_mayStay l E y0 (.int 0) v1 v2 v3 v4 (.int 0) (.ref z5) (.int 0) (.ref w1) (.ref w2) (.ref w3) (.ref w4) (.ref w5) (.ref w6) (.ref w7) (.int (nI S.2.length)) v16 (.int (nI bt)) (.ref z6) v21 v22 v23 v24 v25 v26 v27 z7 tn (rv_wo (rv_bank tn x) t) fN nw ht (rv_wo_lt (by omega)) hN) ym_Mo_mayStay wd_ml_Mo_132 wd_im_Mo_mayStay wd_se_Mo_mayStay [0, 3] (by decide) rfl hA hK hst hP hD hS (ci := 7) (q0 := 0) rfl rfl rfl rfl hl.1 rfl (Nat.le_of_ble_eq_true rfl) ⟨Nat.le_of_ble_eq_true rfl, Nat.le_of_ble_eq_true rfl⟩ ⟨Nat.le_of_ble_eq_true rfl, Nat.le_of_ble_eq_true rfl⟩ d_Mo_crossing_152) (fun r1 u H locs hms hP hD hS => ?_)
          have hP : va_P E.1 vwCl [(z5, zI E 100 fU), (z6, zI E 8 fL), (w1, zI E 10000 f1), (w2, zI E 10000 f2), (w3, zI E 10000 fQ), (w4, zI E 10000 fP), (w5, zI E 10000 fA), (w6, zI E 10000 fB), (w7, zZ E 10000 fE), (y0, .inr (7, [.int 0, v1, v2, v3, v4, .int 0, .ref z5, .int 0, .ref w1, .ref w2, .ref w3, .ref w4, .ref w5, .ref w6, .ref w7, .int (nI S.2.length), v16, .int (nI tn), .int (nI bt), .ref z6, .ref z7, v21, v22, v23, v24, v25, v26, v27])), (z7, zI E 8 fN)] H := hP
          have hD : va_D A [(z5, zI E 100 fU), (z6, zI E 8 fL), (w1, zI E 10000 f1), (w2, zI E 10000 f2), (w3, zI E 10000 fQ), (w4, zI E 10000 fP), (w5, zI E 10000 fA), (w6, zI E 10000 fB), (w7, zZ E 10000 fE), (y0, .inr (7, [.int 0, v1, v2, v3, v4, .int 0, .ref z5, .int 0, .ref w1, .ref w2, .ref w3, .ref w4, .ref w5, .ref w6, .ref w7, .int (nI S.2.length), v16, .int (nI tn), .int (nI bt), .ref z6, .ref z7, v21, v22, v23, v24, v25, v26, v27])), (z7, zI E 8 fN)] := hD
          have hP := hP.sub (ws' := [(y0, .inr (7, [.int 0, v1, v2, v3, v4, .int 0, .ref z5, .int 0, .ref w1, .ref w2, .ref w3, .ref w4, .ref w5, .ref w6, .ref w7, .int (nI S.2.length), v16, .int (nI tn), .int (nI bt), .ref z6, .ref z7, v21, v22, v23, v24, v25, v26, v27])), (z5, zI E 100 fU), (z6, zI E 8 fL), (z7, zI E 8 fN), (w1, zI E 10000 f1), (w2, zI E 10000 f2), (w3, zI E 10000 fQ), (w4, zI E 10000 fP), (w5, zI E 10000 fA), (w6, zI E 10000 fB), (w7, zZ E 10000 fE)]) [9, 0, 1, 10, 2, 3, 4, 5, 6, 7, 8] rfl
          have hD := hD.sub (ws' := [(y0, .inr (7, [.int 0, v1, v2, v3, v4, .int 0, .ref z5, .int 0, .ref w1, .ref w2, .ref w3, .ref w4, .ref w5, .ref w6, .ref w7, .int (nI S.2.length), v16, .int (nI tn), .int (nI bt), .ref z6, .ref z7, v21, v22, v23, v24, v25, v26, v27])), (z5, zI E 100 fU), (z6, zI E 8 fL), (z7, zI E 8 fN), (w1, zI E 10000 f1), (w2, zI E 10000 f2), (w3, zI E 10000 fQ), (w4, zI E 10000 fP), (w5, zI E 10000 fA), (w6, zI E 10000 fB), (w7, zZ E 10000 fE)]) [9, 0, 1, 10, 2, 3, 4, 5, 6, 7, 8] (by decide) rfl
          refine lv_if_ne (tgt := 161) hx hb d_Mo_crossing_155 (by decide) (fun c_7 => ?_) (fun c_7 => ?_)
          · have hsy : rv_stay nw (rv_wo (rv_bank tn x) t) := Classical.byContradiction (fun z => c_7 (hms.2 (fun y => z (hst2.mp y))))
            have hxl := rv_xor_lt hxf (show t < 2 ^ tn by omega)
            have hye := rv_tgt (on := 256) (z := x % 256 ^^^ t) (by omega) (by omega)
            have hyl : 256 ||| (x % 256 ^^^ t) < 512 := by rw [hye]; omega
            have hym : (256 ||| (x % 256 ^^^ t)) % 256 < 2 ^ tn := by rw [hye]; omega
            have hph : mo_phi (256 ||| (x % 256 ^^^ t)) = 2 * (x % 256 ^^^ t) + 1 := by rw [hye]; unfold mo_phi; omega
            refine lv_iload hx hb d_Mo_crossing_161 (lv_at hl 4 rfl) ?_
            refine lv_iload hx hb d_Mo_crossing_163 (lv_at hl 7 rfl) ?_
            refine lv_ixor hx hb d_Mo_crossing_165 ?_
            refine zz_eqi (y := nI (x % 256 ^^^ t)) (nI_xor _ _) ?_
            refine lv_istore (lv' := [(8, .int (nI (x % 256 ^^^ t))), (0, .ref y0), (1, .int wr), (2, .int (nI (2 ^ tn - 1))), (3, .int (nI n)), (4, .int (nI (x % 256))), (5, .int 0), (6, .int (nI (rv_bank tn x))), (7, .int (nI t))]) hx hb d_Mo_crossing_166 hl (by decide) rfl (fun ls hl => ?_)
            refine lv_aload_n hx hb d_Mo_crossing_168 rfl (lv_at hl 1 rfl) ?_
            refine lv_iconst (v := 2) hx hb d_Mo_crossing_169 (by decide) ?_
            refine lv_iload hx hb d_Mo_crossing_170 (lv_at hl 0 rfl) ?_
            refine lv_imul hx hb d_Mo_crossing_172 ?_
            refine zz_eqi (y := nI (2 * (x % 256 ^^^ t))) (pk_mul 2 _) ?_
            refine lv_iload hx hb d_Mo_crossing_173 (lv_at hl 6 rfl) ?_
            refine lv_if_eq (tgt := 182) hx hb d_Mo_crossing_175 (by decide) (fun c_8 => ?_) (fun c_8 => ?_)
            · refine lv_iconst (v := 1) hx hb d_Mo_crossing_182 (by decide) ?_
              refine lv_iadd hx hb d_Mo_crossing_183 ?_
              refine zz_eqi (y := nI (mo_phi (256 ||| (x % 256 ^^^ t)))) (by rw [hph]; exact nI_add _ 1) ?_
              refine lv_iload_n hx hb d_Mo_crossing_184 rfl (lv_at hl 4 rfl) ?_
              refine lv_iload hx hb d_Mo_crossing_185 (lv_at hl 8 rfl) ?_
              refine lv_iload hx hb d_Mo_crossing_187 (lv_at hl 0 rfl) ?_
              have hpl2 := mo_phi_lt hyl
              refine zz_gov (wr := [(z5, zI E 100 fU), (z6, zI E 8 fL), (z7, zI E 8 fN), (w1, zI E 10000 f1), (w2, zI E 10000 f2)]) [0, 6, 7, 8, 9, 10] [1, 2, 3, 4, 5] rfl rfl (by decide) (by decide) hA hP hD hS (zz_runV (wc := [(y0, .inr (7, [.int 0, v1, v2, v3, v4, .int 0, .ref z5, .int 0, .ref w1, .ref w2, .ref w3, .ref w4, .ref w5, .ref w6, .ref w7, .int (nI S.2.length), v16, .int (nI tn), .int (nI bt), .ref z6, .ref z7, v21, v22, v23, v24, v25, v26, v27])), (w3, zI E 10000 fQ), (w4, zI E 10000 fP), (w5, zI E 10000 fA), (w6, zI E 10000 fB), (w7, zZ E 10000 fE)]) (As := [.int (nI (mo_phi (256 ||| (x % 256 ^^^ t)))), .int (nI n), .int (nI t), .int (nI (x % 256 ^^^ t))]) (rest := []) C (c_Mo_come l E y0 (.int 0) v1 v2 v3 v4 (.int 0) (.ref z5) (.int 0) (.ref w1) (.ref w2) v16 (.int (nI tn)) (.int (nI bt)) (.ref z6) (.ref z7) v21 v22 v23 v24 v25 v26 v27 w3 w4 w5 w6 w7 S.2.length fE fQ fP fA fB (mo_phi (256 ||| (x % 256 ^^^ t))) (nI n) (nI t) (nI (x % 256 ^^^ t)) (by omega) (fun z => mo_I_room (a := (256 ||| (x % 256 ^^^ t))) hI (by decide) hyl z)) ym_Mo_come wd_ml_Mo_88 wd_im_Mo_come wd_se_Mo_come [0, 6, 7, 8, 9, 10] (by decide) rfl hA hK hst hP hD hS (ci := 7) (q0 := 0) rfl rfl rfl rfl hl.1 rfl (Nat.le_of_ble_eq_true rfl) ⟨Nat.le_of_ble_eq_true rfl, Nat.le_of_ble_eq_true rfl⟩ ⟨Nat.le_of_ble_eq_true rfl, Nat.le_of_ble_eq_true rfl⟩ d_Mo_crossing_189) (fun u1 H locs hu hP hD hS => ?_)
              have hP : va_P E.1 vwCl [(z5, zI E 100 fU), (z6, zI E 8 fL), (z7, zI E 8 fN), (w1, zI E 10000 f1), (w2, zI E 10000 f2), (y0, .inr (7, [.int 0, v1, v2, v3, v4, .int 0, .ref z5, .int 0, .ref w1, .ref w2, .ref w3, .ref w4, .ref w5, .ref w6, .ref w7, .int (nI u1.2.2.2.2.2), v16, .int (nI tn), .int (nI bt), .ref z6, .ref z7, v21, v22, v23, v24, v25, v26, v27])), (w3, zI E 10000 u1.2.1), (w4, zI E 10000 u1.2.2.1), (w5, zI E 10000 u1.2.2.2.1), (w6, zI E 10000 u1.2.2.2.2.1), (w7, zZ E 10000 u1.1)] H := hP
              have hD : va_D A [(z5, zI E 100 fU), (z6, zI E 8 fL), (z7, zI E 8 fN), (w1, zI E 10000 f1), (w2, zI E 10000 f2), (y0, .inr (7, [.int 0, v1, v2, v3, v4, .int 0, .ref z5, .int 0, .ref w1, .ref w2, .ref w3, .ref w4, .ref w5, .ref w6, .ref w7, .int (nI u1.2.2.2.2.2), v16, .int (nI tn), .int (nI bt), .ref z6, .ref z7, v21, v22, v23, v24, v25, v26, v27])), (w3, zI E 10000 u1.2.1), (w4, zI E 10000 u1.2.2.1), (w5, zI E 10000 u1.2.2.2.1), (w6, zI E 10000 u1.2.2.2.2.1), (w7, zZ E 10000 u1.1)] := hD
              obtain ⟨hI, hmn⟩ := mo_I_come (a := (256 ||| (x % 256 ^^^ t))) (c := t) hI (by decide) hx5 mo_phi_inj hyl ht2 ⟨hyl, hym⟩ hu
              have hP : va_P E.1 vwCl [(z5, zI E 100 fU), (z6, zI E 8 fL), (z7, zI E 8 fN), (w1, zI E 10000 f1), (w2, zI E 10000 f2), (y0, .inr (7, [.int 0, v1, v2, v3, v4, .int 0, .ref z5, .int 0, .ref w1, .ref w2, .ref w3, .ref w4, .ref w5, .ref w6, .ref w7, .int (nI (bfs_mt S x (256 ||| (x % 256 ^^^ t), t)).2.length), v16, .int (nI tn), .int (nI bt), .ref z6, .ref z7, v21, v22, v23, v24, v25, v26, v27])), (w3, zI E 10000 u1.2.1), (w4, zI E 10000 u1.2.2.1), (w5, zI E 10000 u1.2.2.2.1), (w6, zI E 10000 u1.2.2.2.2.1), (w7, zZ E 10000 u1.1)] H := by
                have h9 := hP
                rw [hmn] at h9
                exact h9
              have hD : va_D A [(z5, zI E 100 fU), (z6, zI E 8 fL), (z7, zI E 8 fN), (w1, zI E 10000 f1), (w2, zI E 10000 f2), (y0, .inr (7, [.int 0, v1, v2, v3, v4, .int 0, .ref z5, .int 0, .ref w1, .ref w2, .ref w3, .ref w4, .ref w5, .ref w6, .ref w7, .int (nI (bfs_mt S x (256 ||| (x % 256 ^^^ t), t)).2.length), v16, .int (nI tn), .int (nI bt), .ref z6, .ref z7, v21, v22, v23, v24, v25, v26, v27])), (w3, zI E 10000 u1.2.1), (w4, zI E 10000 u1.2.2.1), (w5, zI E 10000 u1.2.2.2.1), (w6, zI E 10000 u1.2.2.2.2.1), (w7, zZ E 10000 u1.1)] := by
                have h9 := hD
                rw [hmn] at h9
                exact h9
              have hP := hP.sub (ws' := [(y0, .inr (7, [.int 0, v1, v2, v3, v4, .int 0, .ref z5, .int 0, .ref w1, .ref w2, .ref w3, .ref w4, .ref w5, .ref w6, .ref w7, .int (nI (bfs_mt S x (256 ||| (x % 256 ^^^ t), t)).2.length), v16, .int (nI tn), .int (nI bt), .ref z6, .ref z7, v21, v22, v23, v24, v25, v26, v27])), (z5, zI E 100 fU), (z6, zI E 8 fL), (z7, zI E 8 fN), (w1, zI E 10000 f1), (w2, zI E 10000 f2), (w3, zI E 10000 u1.2.1), (w4, zI E 10000 u1.2.2.1), (w5, zI E 10000 u1.2.2.2.1), (w6, zI E 10000 u1.2.2.2.2.1), (w7, zZ E 10000 u1.1)]) [5, 0, 1, 2, 3, 4, 6, 7, 8, 9, 10] rfl
              have hD := hD.sub (ws' := [(y0, .inr (7, [.int 0, v1, v2, v3, v4, .int 0, .ref z5, .int 0, .ref w1, .ref w2, .ref w3, .ref w4, .ref w5, .ref w6, .ref w7, .int (nI (bfs_mt S x (256 ||| (x % 256 ^^^ t), t)).2.length), v16, .int (nI tn), .int (nI bt), .ref z6, .ref z7, v21, v22, v23, v24, v25, v26, v27])), (z5, zI E 100 fU), (z6, zI E 8 fL), (z7, zI E 8 fN), (w1, zI E 10000 f1), (w2, zI E 10000 f2), (w3, zI E 10000 u1.2.1), (w4, zI E 10000 u1.2.2.1), (w5, zI E 10000 u1.2.2.2.1), (w6, zI E 10000 u1.2.2.2.2.1), (w7, zZ E 10000 u1.1)]) [5, 0, 1, 2, 3, 4, 6, 7, 8, 9, 10] (by decide) rfl
              have hgo2 : mo_go nw bt x (rv_bank tn x) 256 f (t + 1) (bfs_mt S x (256 ||| (x % 256 ^^^ t), t)) = T := by rw [← hgo, mo_go, if_pos ⟨hw0, hpp, hsy⟩]
              refine lv_iinc (v := nI (t + 1)) (lv' := [(7, .int (nI (t + 1))), (8, .int (nI (x % 256 ^^^ t))), (0, .ref y0), (1, .int wr), (2, .int (nI (2 ^ tn - 1))), (3, .int (nI n)), (4, .int (nI (x % 256))), (5, .int 0), (6, .int (nI (rv_bank tn x)))]) hx hb d_Mo_crossing_192 hl (k := 8) rfl (nI_1 _) (by decide) rfl (fun ls hl => ?_)
              refine lv_goto (tgt := 115) hx hb d_Mo_crossing_195 (by decide) ?_
              exact ih (t + 1) u1.1 u1.2.1 u1.2.2.1 u1.2.2.2.1 u1.2.2.2.2.1 (bfs_mt S x (256 ||| (x % 256 ^^^ t), t)) (by omega) hgo2 hI kk _ _ ls hP hD hS (lv_sub hl [2, 3, 4, 5, 6, 7, 8, 0] rfl)
            · exact absurd rfl c_8
          · have hns : ¬ rv_stay nw (rv_wo (rv_bank tn x) t) := fun z => absurd ((hms.1 (hst2.mpr z)).symm.trans c_7) (by decide)
            have hgo2 : mo_go nw bt x (rv_bank tn x) 256 f (t + 1) S = T := by rw [← hgo, mo_go, if_neg (fun z => hns z.2.2)]
            refine lv_goto (tgt := 192) hx hb d_Mo_crossing_158 (by decide) ?_
            refine lv_iinc (v := nI (t + 1)) (lv' := [(7, .int (nI (t + 1))), (0, .ref y0), (1, .int wr), (2, .int (nI (2 ^ tn - 1))), (3, .int (nI n)), (4, .int (nI (x % 256))), (5, .int 0), (6, .int (nI (rv_bank tn x)))]) hx hb d_Mo_crossing_192 hl (k := 7) rfl (nI_1 _) (by decide) rfl (fun ls hl => ?_)
            refine lv_goto (tgt := 115) hx hb d_Mo_crossing_195 (by decide) ?_
            exact ih (t + 1) fE fQ fP fA fB S (by omega) hgo2 hI kk _ _ ls hP hD hS (lv_sub hl [1, 2, 3, 4, 5, 6, 7, 0] rfl)

set_option maxHeartbeats 4000000 in
set_option maxRecDepth 100000 in
theorem lp_Mo_cr1 {p : Program} {l : Launch} {e : Env} {s : State} {m : MethodId} {below : List Frame} {meth : Method} {c : Code} {A : Nat → Prop}  {E : zG} {y0 : Nat} {v1 v2 v3 v4 v16 v21 v22 v23 v24 v25 v26 v27 : Value} {z5 z6 z7 w1 w2 w3 w4 w5 w6 w7 k : Nat} {fU fL fN f1 f2 : Nat → Int32} {tn bt : Nat} {nw : Nat → Nat} {wr : Int32} (et : (cr_T (rt_u fU k)).2.2 = tn) (en : (cr_nw (rt_u fU k) k) = nw) (eb : (cr_bt (rt_u fU k) k) = bt) (ht : tn ≤ 8) (hbt : bt ≤ 3) (hN : ∀ j, j < 8 → fN j = nI (nw j) ∧ nw j < 256) {n x : Nat} (hx5 : x < 512) (hxf : x % 256 < 2 ^ tn) (hxs : 256 ≤ x) {T : bS} (C : cx p s m #[.ref y0] meth c b_Mo_crossing 9 y_Mo_crossing.cls (some .int)) (hA : ∀ q, s.heap.size ≤ q → A q) (hK : kt E s) (hst : stt A s s.heap) :
    ∀ (f t : Nat) (fE fQ fP fA fB : Nat → Int32) (S : bS) (_ : t + f = 2 ^ tn) (_ : mo_go nw bt x (rv_bank tn x) 0 f t S = T) (_ : mo_I 512 n x (fun y => y < 512 ∧ y % 256 < 2 ^ tn) mo_phi S fE fQ fP) (kk : ∀ (fE fQ fP fA fB : Nat → Int32) (H : Heap) (locs : List Loc) (ls : Array Slot), mo_I 512 n x (fun y => y < 512 ∧ y % 256 < 2 ^ tn) mo_phi T fE fQ fP → va_P E.1 vwCl [(y0, .inr (7, [.int 0, v1, v2, v3, v4, .int 0, .ref z5, .int 0, .ref w1, .ref w2, .ref w3, .ref w4, .ref w5, .ref w6, .ref w7, .int (nI T.2.length), v16, .int (nI tn), .int (nI bt), .ref z6, .ref z7, v21, v22, v23, v24, v25, v26, v27])), (z5, zI E 100 fU), (z6, zI E 8 fL), (z7, zI E 8 fN), (w1, zI E 10000 f1), (w2, zI E 10000 f2), (w3, zI E 10000 fQ), (w4, zI E 10000 fP), (w5, zI E 10000 fA), (w6, zI E 10000 fB), (w7, zZ E 10000 fE)] H → va_D A [(y0, .inr (7, [.int 0, v1, v2, v3, v4, .int 0, .ref z5, .int 0, .ref w1, .ref w2, .ref w3, .ref w4, .ref w5, .ref w6, .ref w7, .int (nI T.2.length), v16, .int (nI tn), .int (nI bt), .ref z6, .ref z7, v21, v22, v23, v24, v25, v26, v27])), (z5, zI E 100 fU), (z6, zI E 8 fL), (z7, zI E 8 fN), (w1, zI E 10000 f1), (w2, zI E 10000 f2), (w3, zI E 10000 fQ), (w4, zI E 10000 fP), (w5, zI E 10000 fA), (w6, zI E 10000 fB), (w7, zZ E 10000 fE)] → va_S A s.heap H locs → lv_has ls 9 [(0, .ref y0), (1, .int wr), (2, .int (nI (2 ^ tn - 1))), (3, .int (nI n))] → W p l e (zR 2 46 0 0) s m #[.ref y0] below meth c H locs 0 0 (MQ below ((zQi E (S := (Nat → Int32) × (Nat → Int32) × Nat × Int32 × (Nat → Int32) × (Nat → Int32) × mU) (fun r _ => r = bfs_A (rv_RUN (cr_T (rt_u fU k)).2.2 (cr_nw (rt_u fU k) k) (cr_bt (rt_u fU k) k))) (fun u => [(y0, .inr (7, [.int 0, v1, v2, v3, v4, .int 0, .ref z5, .int (nI (bfs_L (rv_RUN (cr_T (rt_u fU k)).2.2 (cr_nw (rt_u fU k) k) (cr_bt (rt_u fU k) k)))), .ref w1, .ref w2, .ref w3, .ref w4, .ref w5, .ref w6, .ref w7, .int (nI u.2.2.2.2.2.2.2.2.2.2.2), v16, .int (nI u.2.2.1), .int u.2.2.2.1, .ref z6, .ref z7, v21, v22, v23, v24, v25, v26, v27])), (z5, zI E 100 fU), (z6, zI E 8 u.1), (z7, zI E 8 u.2.1), (w1, zI E 10000 u.2.2.2.2.1), (w2, zI E 10000 u.2.2.2.2.2.1), (w3, zI E 10000 u.2.2.2.2.2.2.2.1), (w4, zI E 10000 u.2.2.2.2.2.2.2.2.1), (w5, zI E 10000 u.2.2.2.2.2.2.2.2.2.1), (w6, zI E 10000 u.2.2.2.2.2.2.2.2.2.2.1), (w7, zZ E 10000 u.2.2.2.2.2.2.1)])) A) #[.ref y0] s 0 0 A) (F0 m 198 ls [])) (H : Heap) (locs : List Loc) (ls : Array Slot), va_P E.1 vwCl [(y0, .inr (7, [.int 0, v1, v2, v3, v4, .int 0, .ref z5, .int 0, .ref w1, .ref w2, .ref w3, .ref w4, .ref w5, .ref w6, .ref w7, .int (nI S.2.length), v16, .int (nI tn), .int (nI bt), .ref z6, .ref z7, v21, v22, v23, v24, v25, v26, v27])), (z5, zI E 100 fU), (z6, zI E 8 fL), (z7, zI E 8 fN), (w1, zI E 10000 f1), (w2, zI E 10000 f2), (w3, zI E 10000 fQ), (w4, zI E 10000 fP), (w5, zI E 10000 fA), (w6, zI E 10000 fB), (w7, zZ E 10000 fE)] H → va_D A [(y0, .inr (7, [.int 0, v1, v2, v3, v4, .int 0, .ref z5, .int 0, .ref w1, .ref w2, .ref w3, .ref w4, .ref w5, .ref w6, .ref w7, .int (nI S.2.length), v16, .int (nI tn), .int (nI bt), .ref z6, .ref z7, v21, v22, v23, v24, v25, v26, v27])), (z5, zI E 100 fU), (z6, zI E 8 fL), (z7, zI E 8 fN), (w1, zI E 10000 f1), (w2, zI E 10000 f2), (w3, zI E 10000 fQ), (w4, zI E 10000 fP), (w5, zI E 10000 fA), (w6, zI E 10000 fB), (w7, zZ E 10000 fE)] → va_S A s.heap H locs → lv_has ls 9 [(0, .ref y0), (1, .int wr), (2, .int (nI (2 ^ tn - 1))), (3, .int (nI n)), (4, .int (nI (x % 256))), (5, .int 1), (6, .int (nI (rv_bank tn x))), (7, .int (nI t))] → W p l e (zR 2 46 0 0) s m #[.ref y0] below meth c H locs 0 0 (MQ below ((zQi E (S := (Nat → Int32) × (Nat → Int32) × Nat × Int32 × (Nat → Int32) × (Nat → Int32) × mU) (fun r _ => r = bfs_A (rv_RUN (cr_T (rt_u fU k)).2.2 (cr_nw (rt_u fU k) k) (cr_bt (rt_u fU k) k))) (fun u => [(y0, .inr (7, [.int 0, v1, v2, v3, v4, .int 0, .ref z5, .int (nI (bfs_L (rv_RUN (cr_T (rt_u fU k)).2.2 (cr_nw (rt_u fU k) k) (cr_bt (rt_u fU k) k)))), .ref w1, .ref w2, .ref w3, .ref w4, .ref w5, .ref w6, .ref w7, .int (nI u.2.2.2.2.2.2.2.2.2.2.2), v16, .int (nI u.2.2.1), .int u.2.2.2.1, .ref z6, .ref z7, v21, v22, v23, v24, v25, v26, v27])), (z5, zI E 100 fU), (z6, zI E 8 u.1), (z7, zI E 8 u.2.1), (w1, zI E 10000 u.2.2.2.2.1), (w2, zI E 10000 u.2.2.2.2.2.1), (w3, zI E 10000 u.2.2.2.2.2.2.2.1), (w4, zI E 10000 u.2.2.2.2.2.2.2.2.1), (w5, zI E 10000 u.2.2.2.2.2.2.2.2.2.1), (w6, zI E 10000 u.2.2.2.2.2.2.2.2.2.2.1), (w7, zZ E 10000 u.2.2.2.2.2.2.1)])) A) #[.ref y0] s 0 0 A) (F0 m 115 ls []) := by
  obtain ⟨hx, hb, hr, hml, hown, hts, hlk⟩ := id C
  have hpw : 2 ^ tn ≤ 256 := Nat.le_trans (Nat.pow_le_pow_right (by decide) ht) (by decide : 2 ^ 8 ≤ 256)
  have hp1 : 0 < 2 ^ tn := Nat.two_pow_pos tn
  have hbk : rv_bank tn x < 2 ^ tn := by
    have := rv_bank_le (tn := tn) (x := x) hxf
    omega
  intro f
  induction f with
  | zero =>
    intro t fE fQ fP fA fB S hf hgo hI kk H locs ls hP hD hS hl
    have hgo : S = T := hgo
    refine lv_iload hx hb d_Mo_crossing_115 (lv_at hl 7 rfl) ?_
    refine lv_iload_n hx hb d_Mo_crossing_117 rfl (lv_at hl 2 rfl) ?_
    refine lv_icmp_gt (tgt := 198) hx hb d_Mo_crossing_118 (by decide) (fun c_10 => ?_) (fun c_10 => ?_)
    · have hP : va_P E.1 vwCl [(y0, .inr (7, [.int 0, v1, v2, v3, v4, .int 0, .ref z5, .int 0, .ref w1, .ref w2, .ref w3, .ref w4, .ref w5, .ref w6, .ref w7, .int (nI T.2.length), v16, .int (nI tn), .int (nI bt), .ref z6, .ref z7, v21, v22, v23, v24, v25, v26, v27])), (z5, zI E 100 fU), (z6, zI E 8 fL), (z7, zI E 8 fN), (w1, zI E 10000 f1), (w2, zI E 10000 f2), (w3, zI E 10000 fQ), (w4, zI E 10000 fP), (w5, zI E 10000 fA), (w6, zI E 10000 fB), (w7, zZ E 10000 fE)] H := by
        have h9 := hP
        rw [hgo] at h9
        exact h9
      have hD : va_D A [(y0, .inr (7, [.int 0, v1, v2, v3, v4, .int 0, .ref z5, .int 0, .ref w1, .ref w2, .ref w3, .ref w4, .ref w5, .ref w6, .ref w7, .int (nI T.2.length), v16, .int (nI tn), .int (nI bt), .ref z6, .ref z7, v21, v22, v23, v24, v25, v26, v27])), (z5, zI E 100 fU), (z6, zI E 8 fL), (z7, zI E 8 fN), (w1, zI E 10000 f1), (w2, zI E 10000 f2), (w3, zI E 10000 fQ), (w4, zI E 10000 fP), (w5, zI E 10000 fA), (w6, zI E 10000 fB), (w7, zZ E 10000 fE)] := by
        have h9 := hD
        rw [hgo] at h9
        exact h9
      rw [hgo] at hI
      exact kk fE fQ fP fA fB _ _ ls hI hP hD hS (lv_sub hl [0, 1, 2, 3] rfl)
    · exact absurd (nI_lt (show 2 ^ tn - 1 < t by omega) (by omega)) c_10
  | succ f ih =>
    intro t fE fQ fP fA fB S hf hgo hI kk H locs ls hP hD hS hl
    have ht2 : t < 256 := by omega
    have hwl : rv_wo t (rv_bank tn x) < 256 := rv_wo_lt ht2
    refine lv_iload hx hb d_Mo_crossing_115 (lv_at hl 7 rfl) ?_
    refine lv_iload_n hx hb d_Mo_crossing_117 rfl (lv_at hl 2 rfl) ?_
    refine lv_icmp_gt (tgt := 198) hx hb d_Mo_crossing_118 (by decide) (fun c_11 => ?_) (fun c_11 => ?_)
    · exact absurd c_11 (nI_nlt (by omega) (by omega))
    · refine lv_iload hx hb d_Mo_crossing_121 (lv_at hl 7 rfl) ?_
      refine lv_iload hx hb d_Mo_crossing_123 (lv_at hl 6 rfl) ?_
      refine lv_iconst (v := (-1)) hx hb d_Mo_crossing_125 (by decide) ?_
      refine lv_ixor hx hb d_Mo_crossing_126 ?_
      refine lv_iand hx hb d_Mo_crossing_127 ?_
      refine zz_eqi (y := nI (rv_wo t (rv_bank tn x))) (rv_woE ht2) ?_
      refine lv_if_ne (tgt := 192) hx hb d_Mo_crossing_128 (by decide) (fun c_12 => ?_) (fun c_12 => ?_)
      · have hgo2 : mo_go nw bt x (rv_bank tn x) 0 f (t + 1) S = T := by rw [← hgo, mo_go, if_neg (fun z => c_12 (by rw [z.1]; rfl))]
        refine lv_iinc (v := nI (t + 1)) (lv' := [(7, .int (nI (t + 1))), (0, .ref y0), (1, .int wr), (2, .int (nI (2 ^ tn - 1))), (3, .int (nI n)), (4, .int (nI (x % 256))), (5, .int 1), (6, .int (nI (rv_bank tn x)))]) hx hb d_Mo_crossing_192 hl (k := 7) rfl (nI_1 _) (by decide) rfl (fun ls hl => ?_)
        refine lv_goto (tgt := 115) hx hb d_Mo_crossing_195 (by decide) ?_
        exact ih (t + 1) fE fQ fP fA fB S (by omega) hgo2 hI kk _ _ ls hP hD hS (lv_sub hl [1, 2, 3, 4, 5, 6, 7, 0] rfl)
      · have hw0 : rv_wo t (rv_bank tn x) = 0 := zz_nI0 c_12 (by omega)
        have hpl := rv_pop_le t
        refine lv_aload_n hx hb d_Mo_crossing_131 rfl (lv_at hl 0 rfl) ?_
        refine lv_iload hx hb d_Mo_crossing_132 (lv_at hl 7 rfl) ?_
        refine zz_goi (wr := [(z5, zI E 100 fU), (z6, zI E 8 fL), (z7, zI E 8 fN), (w1, zI E 10000 f1), (w2, zI E 10000 f2), (w3, zI E 10000 fQ), (w4, zI E 10000 fP), (w5, zI E 10000 fA), (w6, zI E 10000 fB), (w7, zZ E 10000 fE)]) [0] [1, 2, 3, 4, 5, 6, 7, 8, 9, 10] rfl rfl (by decide) (by decide) hA hP hD hS (zz_runV (wc := [(y0, .inr (7, [.int 0, v1, v2, v3, v4, .int 0, .ref z5, .int 0, .ref w1, .ref w2, .ref w3, .ref w4, .ref w5, .ref w6, .ref w7, .int (nI S.2.length), v16, .int (nI tn), .int (nI bt), .ref z6, .ref z7, v21, v22, v23, v24, v25, v26, v27]))]) (As := [.int (nI t)]) (rest := []) C (c_Mo_countOf l E y0 (.int 0) v1 v2 v3 v4 (.int 0) (.ref z5) (.int 0) (.ref w1) (.ref w2) (.ref w3) (.ref w4) (.ref w5) (.ref w6) (.ref w7) (.int (nI S.2.length)) v16 (.int (nI tn)) (.int (nI bt)) (.ref z6) (.ref z7) v21 v22 v23 v24 v25 v26 v27 t ht2) ym_Mo_countOf wd_ml_Mo_129 wd_im_Mo_countOf wd_se_Mo_countOf [0] (by decide) rfl hA hK hst hP hD hS (ci := 7) (q0 := 0) rfl rfl rfl rfl hl.1 rfl (Nat.le_of_ble_eq_true rfl) ⟨Nat.le_of_ble_eq_true rfl, Nat.le_of_ble_eq_true rfl⟩ ⟨Nat.le_of_ble_eq_true rfl, Nat.le_of_ble_eq_true rfl⟩ d_Mo_crossing_134) (fun r_13 u H locs hct hP hD hS => ?_)
        have hP : va_P E.1 vwCl [(z5, zI E 100 fU), (z6, zI E 8 fL), (z7, zI E 8 fN), (w1, zI E 10000 f1), (w2, zI E 10000 f2), (w3, zI E 10000 fQ), (w4, zI E 10000 fP), (w5, zI E 10000 fA), (w6, zI E 10000 fB), (w7, zZ E 10000 fE), (y0, .inr (7, [.int 0, v1, v2, v3, v4, .int 0, .ref z5, .int 0, .ref w1, .ref w2, .ref w3, .ref w4, .ref w5, .ref w6, .ref w7, .int (nI S.2.length), v16, .int (nI tn), .int (nI bt), .ref z6, .ref z7, v21, v22, v23, v24, v25, v26, v27]))] H := hP
        have hD : va_D A [(z5, zI E 100 fU), (z6, zI E 8 fL), (z7, zI E 8 fN), (w1, zI E 10000 f1), (w2, zI E 10000 f2), (w3, zI E 10000 fQ), (w4, zI E 10000 fP), (w5, zI E 10000 fA), (w6, zI E 10000 fB), (w7, zZ E 10000 fE), (y0, .inr (7, [.int 0, v1, v2, v3, v4, .int 0, .ref z5, .int 0, .ref w1, .ref w2, .ref w3, .ref w4, .ref w5, .ref w6, .ref w7, .int (nI S.2.length), v16, .int (nI tn), .int (nI bt), .ref z6, .ref z7, v21, v22, v23, v24, v25, v26, v27]))] := hD
        subst hct
        have hP := hP.sub (ws' := [(y0, .inr (7, [.int 0, v1, v2, v3, v4, .int 0, .ref z5, .int 0, .ref w1, .ref w2, .ref w3, .ref w4, .ref w5, .ref w6, .ref w7, .int (nI S.2.length), v16, .int (nI tn), .int (nI bt), .ref z6, .ref z7, v21, v22, v23, v24, v25, v26, v27])), (z5, zI E 100 fU), (z6, zI E 8 fL), (z7, zI E 8 fN), (w1, zI E 10000 f1), (w2, zI E 10000 f2), (w3, zI E 10000 fQ), (w4, zI E 10000 fP), (w5, zI E 10000 fA), (w6, zI E 10000 fB), (w7, zZ E 10000 fE)]) [10, 0, 1, 2, 3, 4, 5, 6, 7, 8, 9] rfl
        have hD := hD.sub (ws' := [(y0, .inr (7, [.int 0, v1, v2, v3, v4, .int 0, .ref z5, .int 0, .ref w1, .ref w2, .ref w3, .ref w4, .ref w5, .ref w6, .ref w7, .int (nI S.2.length), v16, .int (nI tn), .int (nI bt), .ref z6, .ref z7, v21, v22, v23, v24, v25, v26, v27])), (z5, zI E 100 fU), (z6, zI E 8 fL), (z7, zI E 8 fN), (w1, zI E 10000 f1), (w2, zI E 10000 f2), (w3, zI E 10000 fQ), (w4, zI E 10000 fP), (w5, zI E 10000 fA), (w6, zI E 10000 fB), (w7, zZ E 10000 fE)]) [10, 0, 1, 2, 3, 4, 5, 6, 7, 8, 9] (by decide) rfl
        refine lv_aload_n hx hb d_Mo_crossing_137 rfl (lv_at hl 0 rfl) ?_
        refine zz_get C hK hP fl_Mo_123 0 rfl rfl d_Mo_crossing_138 ?_
        refine lv_icmp_gt (tgt := 192) hx hb d_Mo_crossing_141 (by decide) (fun c_14 => ?_) (fun c_14 => ?_)
        · have hgo2 : mo_go nw bt x (rv_bank tn x) 0 f (t + 1) S = T := by rw [← hgo, mo_go, if_neg (fun z => absurd c_14 (nI_nlt z.2.1 (by omega)))]
          refine lv_iinc (v := nI (t + 1)) (lv' := [(7, .int (nI (t + 1))), (0, .ref y0), (1, .int wr), (2, .int (nI (2 ^ tn - 1))), (3, .int (nI n)), (4, .int (nI (x % 256))), (5, .int 1), (6, .int (nI (rv_bank tn x)))]) hx hb d_Mo_crossing_192 hl (k := 7) rfl (nI_1 _) (by decide) rfl (fun ls hl => ?_)
          refine lv_goto (tgt := 115) hx hb d_Mo_crossing_195 (by decide) ?_
          exact ih (t + 1) fE fQ fP fA fB S (by omega) hgo2 hI kk _ _ ls hP hD hS (lv_sub hl [1, 2, 3, 4, 5, 6, 7, 0] rfl)
        · have hpp : rv_pop t ≤ bt := Nat.le_of_not_lt (fun z => c_14 (nI_lt z (by omega)))
          refine lv_aload_n hx hb d_Mo_crossing_144 rfl (lv_at hl 0 rfl) ?_
          refine lv_iload hx hb d_Mo_crossing_145 (lv_at hl 6 rfl) ?_
          refine lv_iload hx hb d_Mo_crossing_147 (lv_at hl 7 rfl) ?_
          refine lv_iconst (v := (-1)) hx hb d_Mo_crossing_149 (by decide) ?_
          refine lv_ixor hx hb d_Mo_crossing_150 ?_
          refine lv_iand hx hb d_Mo_crossing_151 ?_
          refine zz_eqi (y := nI (rv_wo (rv_bank tn x) t)) (rv_woE (by omega)) ?_
          have hst2 := mo_stay (nw := nw) ht (rv_wo_lt2 (t := t) hbk)
          refine zz_goi (wr := [(z5, zI E 100 fU), (z6, zI E 8 fL), (w1, zI E 10000 f1), (w2, zI E 10000 f2), (w3, zI E 10000 fQ), (w4, zI E 10000 fP), (w5, zI E 10000 fA), (w6, zI E 10000 fB), (w7, zZ E 10000 fE)]) [0, 3] [1, 2, 4, 5, 6, 7, 8, 9, 10] rfl rfl (by decide) (by decide) hA hP hD hS (zz_runV (wc := [(y0, .inr (7, [.int 0, v1, v2, v3, v4, .int 0, .ref z5, .int 0, .ref w1, .ref w2, .ref w3, .ref w4, .ref w5, .ref w6, .ref w7, .int (nI S.2.length), v16, .int (nI tn), .int (nI bt), .ref z6, .ref z7, v21, v22, v23, v24, v25, v26, v27])), (z7, zI E 8 fN)]) (As := [.int (nI (rv_wo (rv_bank tn x) t))]) (rest := []) C (c_Mo_mayStay l E y0 (.int 0) v1 v2 v3 v4 (.int 0) (.ref z5) (.int 0) (.ref w1) (.ref w2) (.ref w3) (.ref w4) (.ref w5) (.ref w6) (.ref w7) (.int (nI S.2.length)) v16 (.int (nI bt)) (.ref z6) v21 v22 v23 v24 v25 v26 v27 z7 tn (rv_wo (rv_bank tn x) t) fN nw ht (rv_wo_lt (by omega)) hN) ym_Mo_mayStay wd_ml_Mo_132 wd_im_Mo_mayStay wd_se_Mo_mayStay [0, 3] (by decide) rfl hA hK hst hP hD hS (ci := 7) (q0 := 0) rfl rfl rfl rfl hl.1 rfl (Nat.le_of_ble_eq_true rfl) ⟨Nat.le_of_ble_eq_true rfl, Nat.le_of_ble_eq_true rfl⟩ ⟨Nat.le_of_ble_eq_true rfl, Nat.le_of_ble_eq_true rfl⟩ d_Mo_crossing_152) (fun r1 u H locs hms hP hD hS => ?_)
          have hP : va_P E.1 vwCl [(z5, zI E 100 fU), (z6, zI E 8 fL), (w1, zI E 10000 f1), (w2, zI E 10000 f2), (w3, zI E 10000 fQ), (w4, zI E 10000 fP), (w5, zI E 10000 fA), (w6, zI E 10000 fB), (w7, zZ E 10000 fE), (y0, .inr (7, [.int 0, v1, v2, v3, v4, .int 0, .ref z5, .int 0, .ref w1, .ref w2, .ref w3, .ref w4, .ref w5, .ref w6, .ref w7, .int (nI S.2.length), v16, .int (nI tn), .int (nI bt), .ref z6, .ref z7, v21, v22, v23, v24, v25, v26, v27])), (z7, zI E 8 fN)] H := hP
          have hD : va_D A [(z5, zI E 100 fU), (z6, zI E 8 fL), (w1, zI E 10000 f1), (w2, zI E 10000 f2), (w3, zI E 10000 fQ), (w4, zI E 10000 fP), (w5, zI E 10000 fA), (w6, zI E 10000 fB), (w7, zZ E 10000 fE), (y0, .inr (7, [.int 0, v1, v2, v3, v4, .int 0, .ref z5, .int 0, .ref w1, .ref w2, .ref w3, .ref w4, .ref w5, .ref w6, .ref w7, .int (nI S.2.length), v16, .int (nI tn), .int (nI bt), .ref z6, .ref z7, v21, v22, v23, v24, v25, v26, v27])), (z7, zI E 8 fN)] := hD
          have hP := hP.sub (ws' := [(y0, .inr (7, [.int 0, v1, v2, v3, v4, .int 0, .ref z5, .int 0, .ref w1, .ref w2, .ref w3, .ref w4, .ref w5, .ref w6, .ref w7, .int (nI S.2.length), v16, .int (nI tn), .int (nI bt), .ref z6, .ref z7, v21, v22, v23, v24, v25, v26, v27])), (z5, zI E 100 fU), (z6, zI E 8 fL), (z7, zI E 8 fN), (w1, zI E 10000 f1), (w2, zI E 10000 f2), (w3, zI E 10000 fQ), (w4, zI E 10000 fP), (w5, zI E 10000 fA), (w6, zI E 10000 fB), (w7, zZ E 10000 fE)]) [9, 0, 1, 10, 2, 3, 4, 5, 6, 7, 8] rfl
          have hD := hD.sub (ws' := [(y0, .inr (7, [.int 0, v1, v2, v3, v4, .int 0, .ref z5, .int 0, .ref w1, .ref w2, .ref w3, .ref w4, .ref w5, .ref w6, .ref w7, .int (nI S.2.length), v16, .int (nI tn), .int (nI bt), .ref z6, .ref z7, v21, v22, v23, v24, v25, v26, v27])), (z5, zI E 100 fU), (z6, zI E 8 fL), (z7, zI E 8 fN), (w1, zI E 10000 f1), (w2, zI E 10000 f2), (w3, zI E 10000 fQ), (w4, zI E 10000 fP), (w5, zI E 10000 fA), (w6, zI E 10000 fB), (w7, zZ E 10000 fE)]) [9, 0, 1, 10, 2, 3, 4, 5, 6, 7, 8] (by decide) rfl
          refine lv_if_ne (tgt := 161) hx hb d_Mo_crossing_155 (by decide) (fun c_15 => ?_) (fun c_15 => ?_)
          · have hsy : rv_stay nw (rv_wo (rv_bank tn x) t) := Classical.byContradiction (fun z => c_15 (hms.2 (fun y => z (hst2.mp y))))
            have hxl := rv_xor_lt hxf (show t < 2 ^ tn by omega)
            have hye := rv_tgt (on := 0) (z := x % 256 ^^^ t) (by omega) (by omega)
            have hyl : 0 ||| (x % 256 ^^^ t) < 512 := by rw [hye]; omega
            have hym : (0 ||| (x % 256 ^^^ t)) % 256 < 2 ^ tn := by rw [hye]; omega
            have hph : mo_phi (0 ||| (x % 256 ^^^ t)) = 2 * (x % 256 ^^^ t) + 0 := by rw [hye]; unfold mo_phi; omega
            refine lv_iload hx hb d_Mo_crossing_161 (lv_at hl 4 rfl) ?_
            refine lv_iload hx hb d_Mo_crossing_163 (lv_at hl 7 rfl) ?_
            refine lv_ixor hx hb d_Mo_crossing_165 ?_
            refine zz_eqi (y := nI (x % 256 ^^^ t)) (nI_xor _ _) ?_
            refine lv_istore (lv' := [(8, .int (nI (x % 256 ^^^ t))), (0, .ref y0), (1, .int wr), (2, .int (nI (2 ^ tn - 1))), (3, .int (nI n)), (4, .int (nI (x % 256))), (5, .int 1), (6, .int (nI (rv_bank tn x))), (7, .int (nI t))]) hx hb d_Mo_crossing_166 hl (by decide) rfl (fun ls hl => ?_)
            refine lv_aload_n hx hb d_Mo_crossing_168 rfl (lv_at hl 1 rfl) ?_
            refine lv_iconst (v := 2) hx hb d_Mo_crossing_169 (by decide) ?_
            refine lv_iload hx hb d_Mo_crossing_170 (lv_at hl 0 rfl) ?_
            refine lv_imul hx hb d_Mo_crossing_172 ?_
            refine zz_eqi (y := nI (2 * (x % 256 ^^^ t))) (pk_mul 2 _) ?_
            refine lv_iload hx hb d_Mo_crossing_173 (lv_at hl 6 rfl) ?_
            refine lv_if_eq (tgt := 182) hx hb d_Mo_crossing_175 (by decide) (fun c_16 => ?_) (fun c_16 => ?_)
            · exact absurd c_16 (by decide)
            · refine lv_iconst (v := 0) hx hb d_Mo_crossing_178 (by decide) ?_
              refine lv_goto (tgt := 183) hx hb d_Mo_crossing_179 (by decide) ?_
              refine lv_iadd hx hb d_Mo_crossing_183 ?_
              refine zz_eqi (y := nI (mo_phi (0 ||| (x % 256 ^^^ t)))) (by rw [hph]; exact nI_add _ 0) ?_
              refine lv_iload_n hx hb d_Mo_crossing_184 rfl (lv_at hl 4 rfl) ?_
              refine lv_iload hx hb d_Mo_crossing_185 (lv_at hl 8 rfl) ?_
              refine lv_iload hx hb d_Mo_crossing_187 (lv_at hl 0 rfl) ?_
              have hpl2 := mo_phi_lt hyl
              refine zz_gov (wr := [(z5, zI E 100 fU), (z6, zI E 8 fL), (z7, zI E 8 fN), (w1, zI E 10000 f1), (w2, zI E 10000 f2)]) [0, 6, 7, 8, 9, 10] [1, 2, 3, 4, 5] rfl rfl (by decide) (by decide) hA hP hD hS (zz_runV (wc := [(y0, .inr (7, [.int 0, v1, v2, v3, v4, .int 0, .ref z5, .int 0, .ref w1, .ref w2, .ref w3, .ref w4, .ref w5, .ref w6, .ref w7, .int (nI S.2.length), v16, .int (nI tn), .int (nI bt), .ref z6, .ref z7, v21, v22, v23, v24, v25, v26, v27])), (w3, zI E 10000 fQ), (w4, zI E 10000 fP), (w5, zI E 10000 fA), (w6, zI E 10000 fB), (w7, zZ E 10000 fE)]) (As := [.int (nI (mo_phi (0 ||| (x % 256 ^^^ t)))), .int (nI n), .int (nI t), .int (nI (x % 256 ^^^ t))]) (rest := []) C (c_Mo_come l E y0 (.int 0) v1 v2 v3 v4 (.int 0) (.ref z5) (.int 0) (.ref w1) (.ref w2) v16 (.int (nI tn)) (.int (nI bt)) (.ref z6) (.ref z7) v21 v22 v23 v24 v25 v26 v27 w3 w4 w5 w6 w7 S.2.length fE fQ fP fA fB (mo_phi (0 ||| (x % 256 ^^^ t))) (nI n) (nI t) (nI (x % 256 ^^^ t)) (by omega) (fun z => mo_I_room (a := (0 ||| (x % 256 ^^^ t))) hI (by decide) hyl z)) ym_Mo_come wd_ml_Mo_88 wd_im_Mo_come wd_se_Mo_come [0, 6, 7, 8, 9, 10] (by decide) rfl hA hK hst hP hD hS (ci := 7) (q0 := 0) rfl rfl rfl rfl hl.1 rfl (Nat.le_of_ble_eq_true rfl) ⟨Nat.le_of_ble_eq_true rfl, Nat.le_of_ble_eq_true rfl⟩ ⟨Nat.le_of_ble_eq_true rfl, Nat.le_of_ble_eq_true rfl⟩ d_Mo_crossing_189) (fun u1 H locs hu hP hD hS => ?_)
              have hP : va_P E.1 vwCl [(z5, zI E 100 fU), (z6, zI E 8 fL), (z7, zI E 8 fN), (w1, zI E 10000 f1), (w2, zI E 10000 f2), (y0, .inr (7, [.int 0, v1, v2, v3, v4, .int 0, .ref z5, .int 0, .ref w1, .ref w2, .ref w3, .ref w4, .ref w5, .ref w6, .ref w7, .int (nI u1.2.2.2.2.2), v16, .int (nI tn), .int (nI bt), .ref z6, .ref z7, v21, v22, v23, v24, v25, v26, v27])), (w3, zI E 10000 u1.2.1), (w4, zI E 10000 u1.2.2.1), (w5, zI E 10000 u1.2.2.2.1), (w6, zI E 10000 u1.2.2.2.2.1), (w7, zZ E 10000 u1.1)] H := hP
              have hD : va_D A [(z5, zI E 100 fU), (z6, zI E 8 fL), (z7, zI E 8 fN), (w1, zI E 10000 f1), (w2, zI E 10000 f2), (y0, .inr (7, [.int 0, v1, v2, v3, v4, .int 0, .ref z5, .int 0, .ref w1, .ref w2, .ref w3, .ref w4, .ref w5, .ref w6, .ref w7, .int (nI u1.2.2.2.2.2), v16, .int (nI tn), .int (nI bt), .ref z6, .ref z7, v21, v22, v23, v24, v25, v26, v27])), (w3, zI E 10000 u1.2.1), (w4, zI E 10000 u1.2.2.1), (w5, zI E 10000 u1.2.2.2.1), (w6, zI E 10000 u1.2.2.2.2.1), (w7, zZ E 10000 u1.1)] := hD
              obtain ⟨hI, hmn⟩ := mo_I_come (a := (0 ||| (x % 256 ^^^ t))) (c := t) hI (by decide) hx5 mo_phi_inj hyl ht2 ⟨hyl, hym⟩ hu
              have hP : va_P E.1 vwCl [(z5, zI E 100 fU), (z6, zI E 8 fL), (z7, zI E 8 fN), (w1, zI E 10000 f1), (w2, zI E 10000 f2), (y0, .inr (7, [.int 0, v1, v2, v3, v4, .int 0, .ref z5, .int 0, .ref w1, .ref w2, .ref w3, .ref w4, .ref w5, .ref w6, .ref w7, .int (nI (bfs_mt S x (0 ||| (x % 256 ^^^ t), t)).2.length), v16, .int (nI tn), .int (nI bt), .ref z6, .ref z7, v21, v22, v23, v24, v25, v26, v27])), (w3, zI E 10000 u1.2.1), (w4, zI E 10000 u1.2.2.1), (w5, zI E 10000 u1.2.2.2.1), (w6, zI E 10000 u1.2.2.2.2.1), (w7, zZ E 10000 u1.1)] H := by
                have h9 := hP
                rw [hmn] at h9
                exact h9
              have hD : va_D A [(z5, zI E 100 fU), (z6, zI E 8 fL), (z7, zI E 8 fN), (w1, zI E 10000 f1), (w2, zI E 10000 f2), (y0, .inr (7, [.int 0, v1, v2, v3, v4, .int 0, .ref z5, .int 0, .ref w1, .ref w2, .ref w3, .ref w4, .ref w5, .ref w6, .ref w7, .int (nI (bfs_mt S x (0 ||| (x % 256 ^^^ t), t)).2.length), v16, .int (nI tn), .int (nI bt), .ref z6, .ref z7, v21, v22, v23, v24, v25, v26, v27])), (w3, zI E 10000 u1.2.1), (w4, zI E 10000 u1.2.2.1), (w5, zI E 10000 u1.2.2.2.1), (w6, zI E 10000 u1.2.2.2.2.1), (w7, zZ E 10000 u1.1)] := by
                have h9 := hD
                rw [hmn] at h9
                exact h9
              have hP := hP.sub (ws' := [(y0, .inr (7, [.int 0, v1, v2, v3, v4, .int 0, .ref z5, .int 0, .ref w1, .ref w2, .ref w3, .ref w4, .ref w5, .ref w6, .ref w7, .int (nI (bfs_mt S x (0 ||| (x % 256 ^^^ t), t)).2.length), v16, .int (nI tn), .int (nI bt), .ref z6, .ref z7, v21, v22, v23, v24, v25, v26, v27])), (z5, zI E 100 fU), (z6, zI E 8 fL), (z7, zI E 8 fN), (w1, zI E 10000 f1), (w2, zI E 10000 f2), (w3, zI E 10000 u1.2.1), (w4, zI E 10000 u1.2.2.1), (w5, zI E 10000 u1.2.2.2.1), (w6, zI E 10000 u1.2.2.2.2.1), (w7, zZ E 10000 u1.1)]) [5, 0, 1, 2, 3, 4, 6, 7, 8, 9, 10] rfl
              have hD := hD.sub (ws' := [(y0, .inr (7, [.int 0, v1, v2, v3, v4, .int 0, .ref z5, .int 0, .ref w1, .ref w2, .ref w3, .ref w4, .ref w5, .ref w6, .ref w7, .int (nI (bfs_mt S x (0 ||| (x % 256 ^^^ t), t)).2.length), v16, .int (nI tn), .int (nI bt), .ref z6, .ref z7, v21, v22, v23, v24, v25, v26, v27])), (z5, zI E 100 fU), (z6, zI E 8 fL), (z7, zI E 8 fN), (w1, zI E 10000 f1), (w2, zI E 10000 f2), (w3, zI E 10000 u1.2.1), (w4, zI E 10000 u1.2.2.1), (w5, zI E 10000 u1.2.2.2.1), (w6, zI E 10000 u1.2.2.2.2.1), (w7, zZ E 10000 u1.1)]) [5, 0, 1, 2, 3, 4, 6, 7, 8, 9, 10] (by decide) rfl
              have hgo2 : mo_go nw bt x (rv_bank tn x) 0 f (t + 1) (bfs_mt S x (0 ||| (x % 256 ^^^ t), t)) = T := by rw [← hgo, mo_go, if_pos ⟨hw0, hpp, hsy⟩]
              refine lv_iinc (v := nI (t + 1)) (lv' := [(7, .int (nI (t + 1))), (8, .int (nI (x % 256 ^^^ t))), (0, .ref y0), (1, .int wr), (2, .int (nI (2 ^ tn - 1))), (3, .int (nI n)), (4, .int (nI (x % 256))), (5, .int 1), (6, .int (nI (rv_bank tn x)))]) hx hb d_Mo_crossing_192 hl (k := 8) rfl (nI_1 _) (by decide) rfl (fun ls hl => ?_)
              refine lv_goto (tgt := 115) hx hb d_Mo_crossing_195 (by decide) ?_
              exact ih (t + 1) u1.1 u1.2.1 u1.2.2.1 u1.2.2.2.1 u1.2.2.2.2.1 (bfs_mt S x (0 ||| (x % 256 ^^^ t), t)) (by omega) hgo2 hI kk _ _ ls hP hD hS (lv_sub hl [2, 3, 4, 5, 6, 7, 8, 0] rfl)
          · have hns : ¬ rv_stay nw (rv_wo (rv_bank tn x) t) := fun z => absurd ((hms.1 (hst2.mpr z)).symm.trans c_15) (by decide)
            have hgo2 : mo_go nw bt x (rv_bank tn x) 0 f (t + 1) S = T := by rw [← hgo, mo_go, if_neg (fun z => hns z.2.2)]
            refine lv_goto (tgt := 192) hx hb d_Mo_crossing_158 (by decide) ?_
            refine lv_iinc (v := nI (t + 1)) (lv' := [(7, .int (nI (t + 1))), (0, .ref y0), (1, .int wr), (2, .int (nI (2 ^ tn - 1))), (3, .int (nI n)), (4, .int (nI (x % 256))), (5, .int 1), (6, .int (nI (rv_bank tn x)))]) hx hb d_Mo_crossing_192 hl (k := 7) rfl (nI_1 _) (by decide) rfl (fun ls hl => ?_)
            refine lv_goto (tgt := 115) hx hb d_Mo_crossing_195 (by decide) ?_
            exact ih (t + 1) fE fQ fP fA fB S (by omega) hgo2 hI kk _ _ ls hP hD hS (lv_sub hl [1, 2, 3, 4, 5, 6, 7, 0] rfl)

set_option maxHeartbeats 4000000 in
set_option maxRecDepth 100000 in
theorem lp_Mo_crq {p : Program} {l : Launch} {e : Env} {s : State} {m : MethodId} {below : List Frame} {meth : Method} {c : Code} {A : Nat → Prop}  {E : zG} {y0 : Nat} {v1 v2 v3 v4 v16 v21 v22 v23 v24 v25 v26 v27 : Value} {z5 z6 z7 w1 w2 w3 w4 w5 w6 w7 k : Nat} {fU fL fN f1 f2 : Nat → Int32} {tn bt : Nat} {nw : Nat → Nat} {wr : Int32} (et : (cr_T (rt_u fU k)).2.2 = tn) (en : (cr_nw (rt_u fU k) k) = nw) (eb : (cr_bt (rt_u fU k) k) = bt) (ht : tn ≤ 8) (hbt : bt ≤ 3) (hN : ∀ j, j < 8 → fN j = nI (nw j) ∧ nw j < 256) (C : cx p s m #[.ref y0] meth c b_Mo_crossing 9 y_Mo_crossing.cls (some .int)) (hA : ∀ q, s.heap.size ≤ q → A q) (hK : kt E s) (hst : stt A s s.heap) :
    ∀ (f n : Nat) (fE fQ fP fA fB : Nat → Int32) (S : bS) (_ : n + f = 10000) (_ : bfs_run (rv_dn tn) (rv_next tn nw bt) f n S = rv_RUN tn nw bt) (_ : mr 512 mo_phi S fE fQ fP) (_ : bfs_J 512 (fun y => y < 512 ∧ y % 256 < 2 ^ tn) S) (H : Heap) (locs : List Loc) (ls : Array Slot), va_P E.1 vwCl [(y0, .inr (7, [.int 0, v1, v2, v3, v4, .int 0, .ref z5, .int 0, .ref w1, .ref w2, .ref w3, .ref w4, .ref w5, .ref w6, .ref w7, .int (nI S.2.length), v16, .int (nI tn), .int (nI bt), .ref z6, .ref z7, v21, v22, v23, v24, v25, v26, v27])), (z5, zI E 100 fU), (z6, zI E 8 fL), (z7, zI E 8 fN), (w1, zI E 10000 f1), (w2, zI E 10000 f2), (w3, zI E 10000 fQ), (w4, zI E 10000 fP), (w5, zI E 10000 fA), (w6, zI E 10000 fB), (w7, zZ E 10000 fE)] H → va_D A [(y0, .inr (7, [.int 0, v1, v2, v3, v4, .int 0, .ref z5, .int 0, .ref w1, .ref w2, .ref w3, .ref w4, .ref w5, .ref w6, .ref w7, .int (nI S.2.length), v16, .int (nI tn), .int (nI bt), .ref z6, .ref z7, v21, v22, v23, v24, v25, v26, v27])), (z5, zI E 100 fU), (z6, zI E 8 fL), (z7, zI E 8 fN), (w1, zI E 10000 f1), (w2, zI E 10000 f2), (w3, zI E 10000 fQ), (w4, zI E 10000 fP), (w5, zI E 10000 fA), (w6, zI E 10000 fB), (w7, zZ E 10000 fE)] → va_S A s.heap H locs → lv_has ls 9 [(0, .ref y0), (1, .int wr), (2, .int (nI (2 ^ tn - 1))), (3, .int (nI n))] → W p l e (zR 2 46 0 0) s m #[.ref y0] below meth c H locs 0 0 (MQ below ((zQi E (S := (Nat → Int32) × (Nat → Int32) × Nat × Int32 × (Nat → Int32) × (Nat → Int32) × mU) (fun r _ => r = bfs_A (rv_RUN (cr_T (rt_u fU k)).2.2 (cr_nw (rt_u fU k) k) (cr_bt (rt_u fU k) k))) (fun u => [(y0, .inr (7, [.int 0, v1, v2, v3, v4, .int 0, .ref z5, .int (nI (bfs_L (rv_RUN (cr_T (rt_u fU k)).2.2 (cr_nw (rt_u fU k) k) (cr_bt (rt_u fU k) k)))), .ref w1, .ref w2, .ref w3, .ref w4, .ref w5, .ref w6, .ref w7, .int (nI u.2.2.2.2.2.2.2.2.2.2.2), v16, .int (nI u.2.2.1), .int u.2.2.2.1, .ref z6, .ref z7, v21, v22, v23, v24, v25, v26, v27])), (z5, zI E 100 fU), (z6, zI E 8 u.1), (z7, zI E 8 u.2.1), (w1, zI E 10000 u.2.2.2.2.1), (w2, zI E 10000 u.2.2.2.2.2.1), (w3, zI E 10000 u.2.2.2.2.2.2.2.1), (w4, zI E 10000 u.2.2.2.2.2.2.2.2.1), (w5, zI E 10000 u.2.2.2.2.2.2.2.2.2.1), (w6, zI E 10000 u.2.2.2.2.2.2.2.2.2.2.1), (w7, zZ E 10000 u.2.2.2.2.2.2.1)])) A) #[.ref y0] s 0 0 A) (F0 m 45 ls []) := by
  obtain ⟨hx, hb, hr, hml, hown, hts, hlk⟩ := id C
  have hpw : 2 ^ tn ≤ 256 := Nat.le_trans (Nat.pow_le_pow_right (by decide) ht) (by decide : 2 ^ 8 ≤ 256)
  have hp1 : 0 < 2 ^ tn := Nat.two_pow_pos tn
  intro f
  induction f with
  | zero =>
    intro n fE fQ fP fA fB S hi hgo hM hJS H locs ls hP hD hS hl
    have hlen := bfs_le hJS.1
    have hrf : bfs_run (rv_dn tn) (rv_next tn nw bt) 0 n S = (none, S) := rfl
    refine lv_iload_n hx hb d_Mo_crossing_45 rfl (lv_at hl 3 rfl) ?_
    refine lv_aload_n hx hb d_Mo_crossing_46 rfl (lv_at hl 0 rfl) ?_
    refine zz_get C hK hP fl_Mo_85 0 rfl rfl d_Mo_crossing_47 ?_
    refine lv_icmp_ge (tgt := 204) hx hb d_Mo_crossing_50 (by decide) (fun c_18 => ?_) (fun c_18 => ?_)
    · have eL : (0 : Int32) = nI (bfs_L (rv_RUN (cr_T (rt_u fU k)).2.2 (cr_nw (rt_u fU k) k) (cr_bt (rt_u fU k) k))) := by rw [et, en, eb, ← hgo, hrf]; rfl
      have hP : va_P E.1 vwCl [(y0, .inr (7, [.int 0, v1, v2, v3, v4, .int 0, .ref z5, .int (nI (bfs_L (rv_RUN (cr_T (rt_u fU k)).2.2 (cr_nw (rt_u fU k) k) (cr_bt (rt_u fU k) k)))), .ref w1, .ref w2, .ref w3, .ref w4, .ref w5, .ref w6, .ref w7, .int (nI S.2.length), v16, .int (nI tn), .int (nI bt), .ref z6, .ref z7, v21, v22, v23, v24, v25, v26, v27])), (z5, zI E 100 fU), (z6, zI E 8 fL), (z7, zI E 8 fN), (w1, zI E 10000 f1), (w2, zI E 10000 f2), (w3, zI E 10000 fQ), (w4, zI E 10000 fP), (w5, zI E 10000 fA), (w6, zI E 10000 fB), (w7, zZ E 10000 fE)] H := by rw [← eL]; exact hP
      have hD : va_D A [(y0, .inr (7, [.int 0, v1, v2, v3, v4, .int 0, .ref z5, .int (nI (bfs_L (rv_RUN (cr_T (rt_u fU k)).2.2 (cr_nw (rt_u fU k) k) (cr_bt (rt_u fU k) k)))), .ref w1, .ref w2, .ref w3, .ref w4, .ref w5, .ref w6, .ref w7, .int (nI S.2.length), v16, .int (nI tn), .int (nI bt), .ref z6, .ref z7, v21, v22, v23, v24, v25, v26, v27])), (z5, zI E 100 fU), (z6, zI E 8 fL), (z7, zI E 8 fN), (w1, zI E 10000 f1), (w2, zI E 10000 f2), (w3, zI E 10000 fQ), (w4, zI E 10000 fP), (w5, zI E 10000 fA), (w6, zI E 10000 fB), (w7, zZ E 10000 fE)] := by rw [← eL]; exact hD
      refine lv_iconst (v := (-1)) hx hb d_Mo_crossing_204 (by decide) ?_
      exact zz_reti C (rfl) hS (fL, fN, tn, nI bt, f1, f2, fE, fQ, fP, fA, fB, S.2.length) (by rw [et, en, eb, ← hgo, hrf]; rfl) hP hD d_Mo_crossing_205
    · exact absurd (nI_le (by omega) (by omega)) c_18
  | succ f ih =>
    intro n fE fQ fP fA fB S hi hgo hM hJS H locs ls hP hD hS hl
    have hlen := bfs_le hJS.1
    refine lv_iload_n hx hb d_Mo_crossing_45 rfl (lv_at hl 3 rfl) ?_
    refine lv_aload_n hx hb d_Mo_crossing_46 rfl (lv_at hl 0 rfl) ?_
    refine zz_get C hK hP fl_Mo_85 0 rfl rfl d_Mo_crossing_47 ?_
    refine lv_icmp_ge (tgt := 204) hx hb d_Mo_crossing_50 (by decide) (fun c_19 => ?_) (fun c_19 => ?_)
    · have hge : ¬ n < S.2.length := fun z => absurd c_19 (nI_ge z (by omega))
      have hrf : bfs_run (rv_dn tn) (rv_next tn nw bt) (f + 1) n S = (none, S) := by rw [bfs_run, if_neg hge]
      have eL : (0 : Int32) = nI (bfs_L (rv_RUN (cr_T (rt_u fU k)).2.2 (cr_nw (rt_u fU k) k) (cr_bt (rt_u fU k) k))) := by rw [et, en, eb, ← hgo, hrf]; rfl
      have hP : va_P E.1 vwCl [(y0, .inr (7, [.int 0, v1, v2, v3, v4, .int 0, .ref z5, .int (nI (bfs_L (rv_RUN (cr_T (rt_u fU k)).2.2 (cr_nw (rt_u fU k) k) (cr_bt (rt_u fU k) k)))), .ref w1, .ref w2, .ref w3, .ref w4, .ref w5, .ref w6, .ref w7, .int (nI S.2.length), v16, .int (nI tn), .int (nI bt), .ref z6, .ref z7, v21, v22, v23, v24, v25, v26, v27])), (z5, zI E 100 fU), (z6, zI E 8 fL), (z7, zI E 8 fN), (w1, zI E 10000 f1), (w2, zI E 10000 f2), (w3, zI E 10000 fQ), (w4, zI E 10000 fP), (w5, zI E 10000 fA), (w6, zI E 10000 fB), (w7, zZ E 10000 fE)] H := by rw [← eL]; exact hP
      have hD : va_D A [(y0, .inr (7, [.int 0, v1, v2, v3, v4, .int 0, .ref z5, .int (nI (bfs_L (rv_RUN (cr_T (rt_u fU k)).2.2 (cr_nw (rt_u fU k) k) (cr_bt (rt_u fU k) k)))), .ref w1, .ref w2, .ref w3, .ref w4, .ref w5, .ref w6, .ref w7, .int (nI S.2.length), v16, .int (nI tn), .int (nI bt), .ref z6, .ref z7, v21, v22, v23, v24, v25, v26, v27])), (z5, zI E 100 fU), (z6, zI E 8 fL), (z7, zI E 8 fN), (w1, zI E 10000 f1), (w2, zI E 10000 f2), (w3, zI E 10000 fQ), (w4, zI E 10000 fP), (w5, zI E 10000 fA), (w6, zI E 10000 fB), (w7, zZ E 10000 fE)] := by rw [← eL]; exact hD
      refine lv_iconst (v := (-1)) hx hb d_Mo_crossing_204 (by decide) ?_
      exact zz_reti C (rfl) hS (fL, fN, tn, nI bt, f1, f2, fE, fQ, fP, fA, fB, S.2.length) (by rw [et, en, eb, ← hgo, hrf]; rfl) hP hD d_Mo_crossing_205
    · have hlt : n < S.2.length := zz_ltc c_19 (by omega)
      obtain ⟨x, hxe⟩ : ∃ x, x = S.2.getD n 0 := ⟨_, rfl⟩
      have hxm : x ∈ S.2 := by rw [hxe]; exact mr_mem hlt
      have hxf := (hJS.2 x hxm).2
      have hx5 := (hJS.1.1 x hxm).1
      have hxz := (hJS.1.1 x hxm).2
      have hqx : fQ n = nI (mo_phi x) := by rw [(hM.2 n hlt).1, hxe]
      have hpl := mo_phi_lt hx5
      have hI : mo_I 512 n x (fun y => y < 512 ∧ y % 256 < 2 ^ tn) mo_phi S fE fQ fP := ⟨hM, ⟨hJS, hxz⟩, hlt, hxe.symm⟩
      refine lv_aload_n hx hb d_Mo_crossing_53 rfl (lv_at hl 0 rfl) ?_
      refine zz_get C hK hP fl_Mo_28 0 rfl rfl d_Mo_crossing_54 ?_
      refine lv_iload_n hx hb d_Mo_crossing_57 rfl (lv_at hl 3 rfl) ?_
      refine zz_ialdN C hK hP 6 rfl (j := n) (by omega) (by omega) d_Mo_crossing_58 ?_
      refine lv_iconst (v := 2) hx hb d_Mo_crossing_59 (by decide) ?_
      refine lv_idiv hx hb d_Mo_crossing_60 (by decide) ?_
      refine zz_eqi (y := nI (x % 256)) (by rw [hqx]; exact (pk_div (d := 2) (by omega) (by decide) (by decide)).trans (by rw [mo_phi_div hx5])) ?_
      refine lv_istore (lv' := [(4, .int (nI (x % 256))), (0, .ref y0), (1, .int wr), (2, .int (nI (2 ^ tn - 1))), (3, .int (nI n))]) hx hb d_Mo_crossing_61 hl (by decide) rfl (fun ls hl => ?_)
      refine lv_aload_n hx hb d_Mo_crossing_63 rfl (lv_at hl 1 rfl) ?_
      refine zz_get C hK hP fl_Mo_28 0 rfl rfl d_Mo_crossing_64 ?_
      refine lv_iload_n hx hb d_Mo_crossing_67 rfl (lv_at hl 4 rfl) ?_
      refine zz_ialdN C hK hP 6 rfl (j := n) (by omega) (by omega) d_Mo_crossing_68 ?_
      refine lv_iconst (v := 2) hx hb d_Mo_crossing_69 (by decide) ?_
      refine lv_irem hx hb d_Mo_crossing_70 (by decide) ?_
      refine zz_eqi (y := nI (x / 256)) (by rw [hqx]; exact (pk_rem (d := 2) (by omega) (by decide) (by decide)).trans (by rw [mo_phi_mod hx5])) ?_
      refine lv_iconst (v := 1) hx hb d_Mo_crossing_71 (by decide) ?_
      refine lv_icmp_ne (tgt := 79) hx hb d_Mo_crossing_72 (by decide) (fun c_20 => ?_) (fun c_20 => ?_)
      · have hxs : x < 256 := by
          rcases Nat.lt_or_ge x 256 with q | q
          · exact q
          · exact absurd (by rw [show x / 256 = 1 by omega]; rfl) c_20
        refine lv_iconst (v := 0) hx hb d_Mo_crossing_79 (by decide) ?_
        refine lv_istore (lv' := [(5, .int 0), (4, .int (nI (x % 256))), (0, .ref y0), (1, .int wr), (2, .int (nI (2 ^ tn - 1))), (3, .int (nI n))]) hx hb d_Mo_crossing_80 hl (by decide) rfl (fun ls hl => ?_)
        refine lv_iload hx hb d_Mo_crossing_82 (lv_at hl 1 rfl) ?_
        refine lv_iload_n hx hb d_Mo_crossing_84 rfl (lv_at hl 4 rfl) ?_
        refine lv_icmp_ne (tgt := 94) hx hb d_Mo_crossing_85 (by decide) (fun c_21 => ?_) (fun c_21 => ?_)
        · have hfa : ¬ x % 256 = 2 ^ tn - 1 := fun z => c_21 (by rw [z])
          have hrf : bfs_run (rv_dn tn) (rv_next tn nw bt) (f + 1) n S = bfs_run (rv_dn tn) (rv_next tn nw bt) f (n + 1) (rv_next tn nw bt x S) := by rw [bfs_run, if_pos hlt, ← hxe, if_neg (show ¬ rv_dn tn x = true from fun z => hfa (of_decide_eq_true z))]
          refine lv_iload hx hb d_Mo_crossing_94 (lv_at hl 0 rfl) ?_
          refine lv_if_eq (tgt := 104) hx hb d_Mo_crossing_96 (by decide) (fun c_22 => ?_) (fun c_22 => ?_)
          · refine lv_iload_n hx hb d_Mo_crossing_104 rfl (lv_at hl 4 rfl) ?_
            refine lv_iload hx hb d_Mo_crossing_105 (lv_at hl 1 rfl) ?_
            refine lv_iconst (v := (-1)) hx hb d_Mo_crossing_107 (by decide) ?_
            refine lv_ixor hx hb d_Mo_crossing_108 ?_
            refine lv_iand hx hb d_Mo_crossing_109 ?_
            refine zz_eqi (y := nI (rv_bank tn x)) ((rv_woE (by omega)).trans (by unfold rv_bank; rw [if_pos hxs])) ?_
            refine lv_istore (lv' := [(6, .int (nI (rv_bank tn x))), (5, .int 0), (4, .int (nI (x % 256))), (0, .ref y0), (1, .int wr), (2, .int (nI (2 ^ tn - 1))), (3, .int (nI n))]) hx hb d_Mo_crossing_110 hl (by decide) rfl (fun ls hl => ?_)
            refine lv_iconst (v := 0) hx hb d_Mo_crossing_112 (by decide) ?_
            refine zz_eqi (y := nI 0) (rfl) ?_
            refine lv_istore (lv' := [(7, .int (nI 0)), (6, .int (nI (rv_bank tn x))), (5, .int 0), (4, .int (nI (x % 256))), (0, .ref y0), (1, .int wr), (2, .int (nI (2 ^ tn - 1))), (3, .int (nI n))]) hx hb d_Mo_crossing_113 hl (by decide) rfl (fun ls hl => ?_)
            have hgo3 : mo_go nw bt x (rv_bank tn x) 256 (2 ^ tn) 0 S = rv_next tn nw bt x S := by
              have h9 := mo_next (bt := bt) (nw := nw) ht hxf S
              rw [show rv_on x = 256 from by unfold rv_on; rw [if_pos hxs]] at h9
              exact h9
            refine lp_Mo_cr0 et en eb ht hbt hN hx5 hxf hxs (T := rv_next tn nw bt x S) C hA hK hst (2 ^ tn) 0 fE fQ fP fA fB S (by omega) hgo3 hI (fun fE fQ fP fA fB H locs ls hI hP hD hS hl => ?_) _ _ ls hP hD hS (lv_sub hl [4, 5, 6, 7, 3, 2, 1, 0] rfl)
            refine lv_iinc (v := nI (n + 1)) (lv' := [(3, .int (nI (n + 1))), (0, .ref y0), (1, .int wr), (2, .int (nI (2 ^ tn - 1)))]) hx hb d_Mo_crossing_198 hl (k := 3) rfl (nI_1 _) (by decide) rfl (fun ls hl => ?_)
            refine lv_goto (tgt := 45) hx hb d_Mo_crossing_201 (by decide) ?_
            exact ih (n + 1) fE fQ fP fA fB (rv_next tn nw bt x S) (by omega) (by rw [← hgo, hrf]) hI.1 hI.2.1.1 _ _ ls hP hD hS (lv_sub hl [1, 2, 3, 0] rfl)
          · exact absurd rfl c_22
        · have hfa : x % 256 = 2 ^ tn - 1 := (nI_eq (by omega) (by omega)).mp c_21
          have hrf : bfs_run (rv_dn tn) (rv_next tn nw bt) (f + 1) n S = (some x, S) := by rw [bfs_run, if_pos hlt, ← hxe, if_pos (show rv_dn tn x = true from decide_eq_true hfa)]
          refine lv_aload_n hx hb d_Mo_crossing_88 rfl (lv_at hl 2 rfl) ?_
          refine lv_iload_n hx hb d_Mo_crossing_89 rfl (lv_at hl 5 rfl) ?_
          refine zz_goi (wr := [(z5, zI E 100 fU), (z6, zI E 8 fL), (z7, zI E 8 fN), (w3, zI E 10000 fQ), (w7, zZ E 10000 fE)]) [0, 4, 5, 7, 8, 9] [1, 2, 3, 6, 10] rfl rfl (by decide) (by decide) hA hP hD hS (zz_runV (wc := [(y0, .inr (7, [.int 0, v1, v2, v3, v4, .int 0, .ref z5, .int 0, .ref w1, .ref w2, .ref w3, .ref w4, .ref w5, .ref w6, .ref w7, .int (nI S.2.length), v16, .int (nI tn), .int (nI bt), .ref z6, .ref z7, v21, v22, v23, v24, v25, v26, v27])), (w1, zI E 10000 f1), (w2, zI E 10000 f2), (w4, zI E 10000 fP), (w5, zI E 10000 fA), (w6, zI E 10000 fB)]) (As := [.int (nI n)]) (rest := []) C (c_Mo_found l E y0 (.int 0) v1 v2 v3 v4 (.int 0) (.ref z5) (.ref w3) (.ref w7) (.int (nI S.2.length)) v16 (.int (nI tn)) (.int (nI bt)) (.ref z6) (.ref z7) v21 v22 v23 v24 v25 v26 v27 w1 w2 w4 w5 w6 f1 f2 fE fQ fP fA fB 0 512 n mo_phi S hM hJS.1.2.1 hlt (by omega)) ym_Mo_found wd_ml_Mo_103 wd_im_Mo_found wd_se_Mo_found [0, 4, 5, 7, 8, 9] (by decide) rfl hA hK hst hP hD hS (ci := 7) (q0 := 0) rfl rfl rfl rfl hl.1 rfl (Nat.le_of_ble_eq_true rfl) ⟨Nat.le_of_ble_eq_true rfl, Nat.le_of_ble_eq_true rfl⟩ ⟨Nat.le_of_ble_eq_true rfl, Nat.le_of_ble_eq_true rfl⟩ d_Mo_crossing_90) (fun r2 u2 H locs hw2 hP hD hS => ?_)
          have hP : va_P E.1 vwCl [(z5, zI E 100 fU), (z6, zI E 8 fL), (z7, zI E 8 fN), (w3, zI E 10000 fQ), (w7, zZ E 10000 fE), (y0, .inr (7, [.int 0, v1, v2, v3, v4, .int 0, .ref z5, .int (nI (bfs_cnt (bfs_bf S.1) 10000 (S.2.getD n 0))), .ref w1, .ref w2, .ref w3, .ref w4, .ref w5, .ref w6, .ref w7, .int (nI S.2.length), v16, .int (nI tn), .int (nI bt), .ref z6, .ref z7, v21, v22, v23, v24, v25, v26, v27])), (w1, zI E 10000 u2.1), (w2, zI E 10000 u2.2), (w4, zI E 10000 fP), (w5, zI E 10000 fA), (w6, zI E 10000 fB)] H := hP
          have hD : va_D A [(z5, zI E 100 fU), (z6, zI E 8 fL), (z7, zI E 8 fN), (w3, zI E 10000 fQ), (w7, zZ E 10000 fE), (y0, .inr (7, [.int 0, v1, v2, v3, v4, .int 0, .ref z5, .int (nI (bfs_cnt (bfs_bf S.1) 10000 (S.2.getD n 0))), .ref w1, .ref w2, .ref w3, .ref w4, .ref w5, .ref w6, .ref w7, .int (nI S.2.length), v16, .int (nI tn), .int (nI bt), .ref z6, .ref z7, v21, v22, v23, v24, v25, v26, v27])), (w1, zI E 10000 u2.1), (w2, zI E 10000 u2.2), (w4, zI E 10000 fP), (w5, zI E 10000 fA), (w6, zI E 10000 fB)] := hD
          have hP := hP.sub (ws' := [(y0, .inr (7, [.int 0, v1, v2, v3, v4, .int 0, .ref z5, .int (nI (bfs_cnt (bfs_bf S.1) 10000 (S.2.getD n 0))), .ref w1, .ref w2, .ref w3, .ref w4, .ref w5, .ref w6, .ref w7, .int (nI S.2.length), v16, .int (nI tn), .int (nI bt), .ref z6, .ref z7, v21, v22, v23, v24, v25, v26, v27])), (z5, zI E 100 fU), (z6, zI E 8 fL), (z7, zI E 8 fN), (w1, zI E 10000 u2.1), (w2, zI E 10000 u2.2), (w3, zI E 10000 fQ), (w4, zI E 10000 fP), (w5, zI E 10000 fA), (w6, zI E 10000 fB), (w7, zZ E 10000 fE)]) [5, 0, 1, 2, 6, 7, 3, 8, 9, 10, 4] rfl
          have hD := hD.sub (ws' := [(y0, .inr (7, [.int 0, v1, v2, v3, v4, .int 0, .ref z5, .int (nI (bfs_cnt (bfs_bf S.1) 10000 (S.2.getD n 0))), .ref w1, .ref w2, .ref w3, .ref w4, .ref w5, .ref w6, .ref w7, .int (nI S.2.length), v16, .int (nI tn), .int (nI bt), .ref z6, .ref z7, v21, v22, v23, v24, v25, v26, v27])), (z5, zI E 100 fU), (z6, zI E 8 fL), (z7, zI E 8 fN), (w1, zI E 10000 u2.1), (w2, zI E 10000 u2.2), (w3, zI E 10000 fQ), (w4, zI E 10000 fP), (w5, zI E 10000 fA), (w6, zI E 10000 fB), (w7, zZ E 10000 fE)]) [5, 0, 1, 2, 6, 7, 3, 8, 9, 10, 4] (by decide) rfl
          have eL : bfs_cnt (bfs_bf S.1) 10000 (S.2.getD n 0) = bfs_L (rv_RUN (cr_T (rt_u fU k)).2.2 (cr_nw (rt_u fU k) k) (cr_bt (rt_u fU k) k)) := by rw [et, en, eb, ← hgo, hrf, ← hxe]; rfl
          have hP : va_P E.1 vwCl [(y0, .inr (7, [.int 0, v1, v2, v3, v4, .int 0, .ref z5, .int (nI (bfs_L (rv_RUN (cr_T (rt_u fU k)).2.2 (cr_nw (rt_u fU k) k) (cr_bt (rt_u fU k) k)))), .ref w1, .ref w2, .ref w3, .ref w4, .ref w5, .ref w6, .ref w7, .int (nI S.2.length), v16, .int (nI tn), .int (nI bt), .ref z6, .ref z7, v21, v22, v23, v24, v25, v26, v27])), (z5, zI E 100 fU), (z6, zI E 8 fL), (z7, zI E 8 fN), (w1, zI E 10000 u2.1), (w2, zI E 10000 u2.2), (w3, zI E 10000 fQ), (w4, zI E 10000 fP), (w5, zI E 10000 fA), (w6, zI E 10000 fB), (w7, zZ E 10000 fE)] H := by
            have h9 := hP
            rw [eL] at h9
            exact h9
          have hD : va_D A [(y0, .inr (7, [.int 0, v1, v2, v3, v4, .int 0, .ref z5, .int (nI (bfs_L (rv_RUN (cr_T (rt_u fU k)).2.2 (cr_nw (rt_u fU k) k) (cr_bt (rt_u fU k) k)))), .ref w1, .ref w2, .ref w3, .ref w4, .ref w5, .ref w6, .ref w7, .int (nI S.2.length), v16, .int (nI tn), .int (nI bt), .ref z6, .ref z7, v21, v22, v23, v24, v25, v26, v27])), (z5, zI E 100 fU), (z6, zI E 8 fL), (z7, zI E 8 fN), (w1, zI E 10000 u2.1), (w2, zI E 10000 u2.2), (w3, zI E 10000 fQ), (w4, zI E 10000 fP), (w5, zI E 10000 fA), (w6, zI E 10000 fB), (w7, zZ E 10000 fE)] := by
            have h9 := hD
            rw [eL] at h9
            exact h9
          exact zz_reti C (rfl) hS (fL, fN, tn, nI bt, u2.1, u2.2, fE, fQ, fP, fA, fB, S.2.length) (by rw [hw2, eL, et, en, eb, ← hgo, hrf]; rfl) hP hD d_Mo_crossing_93
      · have hxs : 256 ≤ x := by
          have h9 := (nI_eq (b := 1) (by omega) (by decide)).mp c_20
          omega
        refine lv_iconst (v := 1) hx hb d_Mo_crossing_75 (by decide) ?_
        refine lv_goto (tgt := 80) hx hb d_Mo_crossing_76 (by decide) ?_
        refine lv_istore (lv' := [(5, .int 1), (4, .int (nI (x % 256))), (0, .ref y0), (1, .int wr), (2, .int (nI (2 ^ tn - 1))), (3, .int (nI n))]) hx hb d_Mo_crossing_80 hl (by decide) rfl (fun ls hl => ?_)
        refine lv_iload hx hb d_Mo_crossing_82 (lv_at hl 1 rfl) ?_
        refine lv_iload_n hx hb d_Mo_crossing_84 rfl (lv_at hl 4 rfl) ?_
        refine lv_icmp_ne (tgt := 94) hx hb d_Mo_crossing_85 (by decide) (fun c_23 => ?_) (fun c_23 => ?_)
        · have hfa : ¬ x % 256 = 2 ^ tn - 1 := fun z => c_23 (by rw [z])
          have hrf : bfs_run (rv_dn tn) (rv_next tn nw bt) (f + 1) n S = bfs_run (rv_dn tn) (rv_next tn nw bt) f (n + 1) (rv_next tn nw bt x S) := by rw [bfs_run, if_pos hlt, ← hxe, if_neg (show ¬ rv_dn tn x = true from fun z => hfa (of_decide_eq_true z))]
          refine lv_iload hx hb d_Mo_crossing_94 (lv_at hl 0 rfl) ?_
          refine lv_if_eq (tgt := 104) hx hb d_Mo_crossing_96 (by decide) (fun c_24 => ?_) (fun c_24 => ?_)
          · exact absurd c_24 (by decide)
          · refine lv_iload hx hb d_Mo_crossing_99 (lv_at hl 1 rfl) ?_
            refine lv_goto (tgt := 110) hx hb d_Mo_crossing_101 (by decide) ?_
            refine zz_eqi (y := nI (rv_bank tn x)) (by unfold rv_bank; rw [if_neg (by omega)]) ?_
            refine lv_istore (lv' := [(6, .int (nI (rv_bank tn x))), (5, .int 1), (4, .int (nI (x % 256))), (0, .ref y0), (1, .int wr), (2, .int (nI (2 ^ tn - 1))), (3, .int (nI n))]) hx hb d_Mo_crossing_110 hl (by decide) rfl (fun ls hl => ?_)
            refine lv_iconst (v := 0) hx hb d_Mo_crossing_112 (by decide) ?_
            refine zz_eqi (y := nI 0) (rfl) ?_
            refine lv_istore (lv' := [(7, .int (nI 0)), (6, .int (nI (rv_bank tn x))), (5, .int 1), (4, .int (nI (x % 256))), (0, .ref y0), (1, .int wr), (2, .int (nI (2 ^ tn - 1))), (3, .int (nI n))]) hx hb d_Mo_crossing_113 hl (by decide) rfl (fun ls hl => ?_)
            have hgo3 : mo_go nw bt x (rv_bank tn x) 0 (2 ^ tn) 0 S = rv_next tn nw bt x S := by
              have h9 := mo_next (bt := bt) (nw := nw) ht hxf S
              rw [show rv_on x = 0 from by unfold rv_on; rw [if_neg (by omega)]] at h9
              exact h9
            refine lp_Mo_cr1 et en eb ht hbt hN hx5 hxf hxs (T := rv_next tn nw bt x S) C hA hK hst (2 ^ tn) 0 fE fQ fP fA fB S (by omega) hgo3 hI (fun fE fQ fP fA fB H locs ls hI hP hD hS hl => ?_) _ _ ls hP hD hS (lv_sub hl [4, 5, 6, 7, 3, 2, 1, 0] rfl)
            refine lv_iinc (v := nI (n + 1)) (lv' := [(3, .int (nI (n + 1))), (0, .ref y0), (1, .int wr), (2, .int (nI (2 ^ tn - 1)))]) hx hb d_Mo_crossing_198 hl (k := 3) rfl (nI_1 _) (by decide) rfl (fun ls hl => ?_)
            refine lv_goto (tgt := 45) hx hb d_Mo_crossing_201 (by decide) ?_
            exact ih (n + 1) fE fQ fP fA fB (rv_next tn nw bt x S) (by omega) (by rw [← hgo, hrf]) hI.1 hI.2.1.1 _ _ ls hP hD hS (lv_sub hl [1, 2, 3, 0] rfl)
        · have hfa : x % 256 = 2 ^ tn - 1 := (nI_eq (by omega) (by omega)).mp c_23
          have hrf : bfs_run (rv_dn tn) (rv_next tn nw bt) (f + 1) n S = (some x, S) := by rw [bfs_run, if_pos hlt, ← hxe, if_pos (show rv_dn tn x = true from decide_eq_true hfa)]
          refine lv_aload_n hx hb d_Mo_crossing_88 rfl (lv_at hl 2 rfl) ?_
          refine lv_iload_n hx hb d_Mo_crossing_89 rfl (lv_at hl 5 rfl) ?_
          refine zz_goi (wr := [(z5, zI E 100 fU), (z6, zI E 8 fL), (z7, zI E 8 fN), (w3, zI E 10000 fQ), (w7, zZ E 10000 fE)]) [0, 4, 5, 7, 8, 9] [1, 2, 3, 6, 10] rfl rfl (by decide) (by decide) hA hP hD hS (zz_runV (wc := [(y0, .inr (7, [.int 0, v1, v2, v3, v4, .int 0, .ref z5, .int 0, .ref w1, .ref w2, .ref w3, .ref w4, .ref w5, .ref w6, .ref w7, .int (nI S.2.length), v16, .int (nI tn), .int (nI bt), .ref z6, .ref z7, v21, v22, v23, v24, v25, v26, v27])), (w1, zI E 10000 f1), (w2, zI E 10000 f2), (w4, zI E 10000 fP), (w5, zI E 10000 fA), (w6, zI E 10000 fB)]) (As := [.int (nI n)]) (rest := []) C (c_Mo_found l E y0 (.int 0) v1 v2 v3 v4 (.int 0) (.ref z5) (.ref w3) (.ref w7) (.int (nI S.2.length)) v16 (.int (nI tn)) (.int (nI bt)) (.ref z6) (.ref z7) v21 v22 v23 v24 v25 v26 v27 w1 w2 w4 w5 w6 f1 f2 fE fQ fP fA fB 0 512 n mo_phi S hM hJS.1.2.1 hlt (by omega)) ym_Mo_found wd_ml_Mo_103 wd_im_Mo_found wd_se_Mo_found [0, 4, 5, 7, 8, 9] (by decide) rfl hA hK hst hP hD hS (ci := 7) (q0 := 0) rfl rfl rfl rfl hl.1 rfl (Nat.le_of_ble_eq_true rfl) ⟨Nat.le_of_ble_eq_true rfl, Nat.le_of_ble_eq_true rfl⟩ ⟨Nat.le_of_ble_eq_true rfl, Nat.le_of_ble_eq_true rfl⟩ d_Mo_crossing_90) (fun r2 u2 H locs hw2 hP hD hS => ?_)
          have hP : va_P E.1 vwCl [(z5, zI E 100 fU), (z6, zI E 8 fL), (z7, zI E 8 fN), (w3, zI E 10000 fQ), (w7, zZ E 10000 fE), (y0, .inr (7, [.int 0, v1, v2, v3, v4, .int 0, .ref z5, .int (nI (bfs_cnt (bfs_bf S.1) 10000 (S.2.getD n 0))), .ref w1, .ref w2, .ref w3, .ref w4, .ref w5, .ref w6, .ref w7, .int (nI S.2.length), v16, .int (nI tn), .int (nI bt), .ref z6, .ref z7, v21, v22, v23, v24, v25, v26, v27])), (w1, zI E 10000 u2.1), (w2, zI E 10000 u2.2), (w4, zI E 10000 fP), (w5, zI E 10000 fA), (w6, zI E 10000 fB)] H := hP
          have hD : va_D A [(z5, zI E 100 fU), (z6, zI E 8 fL), (z7, zI E 8 fN), (w3, zI E 10000 fQ), (w7, zZ E 10000 fE), (y0, .inr (7, [.int 0, v1, v2, v3, v4, .int 0, .ref z5, .int (nI (bfs_cnt (bfs_bf S.1) 10000 (S.2.getD n 0))), .ref w1, .ref w2, .ref w3, .ref w4, .ref w5, .ref w6, .ref w7, .int (nI S.2.length), v16, .int (nI tn), .int (nI bt), .ref z6, .ref z7, v21, v22, v23, v24, v25, v26, v27])), (w1, zI E 10000 u2.1), (w2, zI E 10000 u2.2), (w4, zI E 10000 fP), (w5, zI E 10000 fA), (w6, zI E 10000 fB)] := hD
          have hP := hP.sub (ws' := [(y0, .inr (7, [.int 0, v1, v2, v3, v4, .int 0, .ref z5, .int (nI (bfs_cnt (bfs_bf S.1) 10000 (S.2.getD n 0))), .ref w1, .ref w2, .ref w3, .ref w4, .ref w5, .ref w6, .ref w7, .int (nI S.2.length), v16, .int (nI tn), .int (nI bt), .ref z6, .ref z7, v21, v22, v23, v24, v25, v26, v27])), (z5, zI E 100 fU), (z6, zI E 8 fL), (z7, zI E 8 fN), (w1, zI E 10000 u2.1), (w2, zI E 10000 u2.2), (w3, zI E 10000 fQ), (w4, zI E 10000 fP), (w5, zI E 10000 fA), (w6, zI E 10000 fB), (w7, zZ E 10000 fE)]) [5, 0, 1, 2, 6, 7, 3, 8, 9, 10, 4] rfl
          have hD := hD.sub (ws' := [(y0, .inr (7, [.int 0, v1, v2, v3, v4, .int 0, .ref z5, .int (nI (bfs_cnt (bfs_bf S.1) 10000 (S.2.getD n 0))), .ref w1, .ref w2, .ref w3, .ref w4, .ref w5, .ref w6, .ref w7, .int (nI S.2.length), v16, .int (nI tn), .int (nI bt), .ref z6, .ref z7, v21, v22, v23, v24, v25, v26, v27])), (z5, zI E 100 fU), (z6, zI E 8 fL), (z7, zI E 8 fN), (w1, zI E 10000 u2.1), (w2, zI E 10000 u2.2), (w3, zI E 10000 fQ), (w4, zI E 10000 fP), (w5, zI E 10000 fA), (w6, zI E 10000 fB), (w7, zZ E 10000 fE)]) [5, 0, 1, 2, 6, 7, 3, 8, 9, 10, 4] (by decide) rfl
          have eL : bfs_cnt (bfs_bf S.1) 10000 (S.2.getD n 0) = bfs_L (rv_RUN (cr_T (rt_u fU k)).2.2 (cr_nw (rt_u fU k) k) (cr_bt (rt_u fU k) k)) := by rw [et, en, eb, ← hgo, hrf, ← hxe]; rfl
          have hP : va_P E.1 vwCl [(y0, .inr (7, [.int 0, v1, v2, v3, v4, .int 0, .ref z5, .int (nI (bfs_L (rv_RUN (cr_T (rt_u fU k)).2.2 (cr_nw (rt_u fU k) k) (cr_bt (rt_u fU k) k)))), .ref w1, .ref w2, .ref w3, .ref w4, .ref w5, .ref w6, .ref w7, .int (nI S.2.length), v16, .int (nI tn), .int (nI bt), .ref z6, .ref z7, v21, v22, v23, v24, v25, v26, v27])), (z5, zI E 100 fU), (z6, zI E 8 fL), (z7, zI E 8 fN), (w1, zI E 10000 u2.1), (w2, zI E 10000 u2.2), (w3, zI E 10000 fQ), (w4, zI E 10000 fP), (w5, zI E 10000 fA), (w6, zI E 10000 fB), (w7, zZ E 10000 fE)] H := by
            have h9 := hP
            rw [eL] at h9
            exact h9
          have hD : va_D A [(y0, .inr (7, [.int 0, v1, v2, v3, v4, .int 0, .ref z5, .int (nI (bfs_L (rv_RUN (cr_T (rt_u fU k)).2.2 (cr_nw (rt_u fU k) k) (cr_bt (rt_u fU k) k)))), .ref w1, .ref w2, .ref w3, .ref w4, .ref w5, .ref w6, .ref w7, .int (nI S.2.length), v16, .int (nI tn), .int (nI bt), .ref z6, .ref z7, v21, v22, v23, v24, v25, v26, v27])), (z5, zI E 100 fU), (z6, zI E 8 fL), (z7, zI E 8 fN), (w1, zI E 10000 u2.1), (w2, zI E 10000 u2.2), (w3, zI E 10000 fQ), (w4, zI E 10000 fP), (w5, zI E 10000 fA), (w6, zI E 10000 fB), (w7, zZ E 10000 fE)] := by
            have h9 := hD
            rw [eL] at h9
            exact h9
          exact zz_reti C (rfl) hS (fL, fN, tn, nI bt, u2.1, u2.2, fE, fQ, fP, fA, fB, S.2.length) (by rw [hw2, eL, et, en, eb, ← hgo, hrf]; rfl) hP hD d_Mo_crossing_93

set_option maxHeartbeats 4000000 in
set_option maxRecDepth 100000 in
theorem c_Mo_crossing_ok (l : Launch) (E : zG) (y0 : Nat) (v1 v2 v3 v4 v16 v21 v22 v23 v24 v25 v26 v27 : Value) (z5 z6 z7 w1 w2 w3 w4 w5 w6 w7 k : Nat) (fU fL fN f1 f2 fE fQ fP fA fB : Nat → Int32) (th sp tt bo mx : Int32) (hk : k ≤ 100) (hR1 : (cr_R (rt_u fU k) k).1 = -1) : zMet l y_Mo_crossing b_Mo_crossing 9 (some .int) 2 46 0 0 E [.ref y0] [(y0, .inr (7, [.int th, v1, v2, v3, v4, .int (nI k), .ref z5, .int sp, .ref w1, .ref w2, .ref w3, .ref w4, .ref w5, .ref w6, .ref w7, .int mx, v16, .int tt, .int bo, .ref z6, .ref z7, v21, v22, v23, v24, v25, v26, v27])), (z5, zI E 100 fU), (z6, zI E 8 fL), (z7, zI E 8 fN), (w1, zI E 10000 f1), (w2, zI E 10000 f2), (w3, zI E 10000 fQ), (w4, zI E 10000 fP), (w5, zI E 10000 fA), (w6, zI E 10000 fB), (w7, zZ E 10000 fE)] (zQi E (S := (Nat → Int32) × (Nat → Int32) × Nat × Int32 × (Nat → Int32) × (Nat → Int32) × mU) (fun r _ => r = bfs_A (rv_RUN (cr_T (rt_u fU k)).2.2 (cr_nw (rt_u fU k) k) (cr_bt (rt_u fU k) k))) (fun u => [(y0, .inr (7, [.int 0, v1, v2, v3, v4, .int 0, .ref z5, .int (nI (bfs_L (rv_RUN (cr_T (rt_u fU k)).2.2 (cr_nw (rt_u fU k) k) (cr_bt (rt_u fU k) k)))), .ref w1, .ref w2, .ref w3, .ref w4, .ref w5, .ref w6, .ref w7, .int (nI u.2.2.2.2.2.2.2.2.2.2.2), v16, .int (nI u.2.2.1), .int u.2.2.2.1, .ref z6, .ref z7, v21, v22, v23, v24, v25, v26, v27])), (z5, zI E 100 fU), (z6, zI E 8 u.1), (z7, zI E 8 u.2.1), (w1, zI E 10000 u.2.2.2.2.1), (w2, zI E 10000 u.2.2.2.2.2.1), (w3, zI E 10000 u.2.2.2.2.2.2.2.1), (w4, zI E 10000 u.2.2.2.2.2.2.2.2.1), (w5, zI E 10000 u.2.2.2.2.2.2.2.2.2.1), (w6, zI E 10000 u.2.2.2.2.2.2.2.2.2.2.1), (w7, zZ E 10000 u.2.2.2.2.2.2.1)])) := by
  refine zz_met (by decide +kernel) (Nat.le_of_ble_eq_true rfl) ?_
  intro p e s m below meth c A ls C hin hA hK hst hP hD hl
  obtain ⟨hx, hb, hr, hml, hown, hts, hlk⟩ := id C
  have hS : va_S A s.heap s.heap [] := va_S.rf
  have hl : lv_has ls 9 [(0, .ref y0)] := hl
  refine lv_aload_n hx hb d_Mo_crossing_0 rfl (lv_at hl 0 rfl) ?_
  refine lv_iconst (v := 0) hx hb d_Mo_crossing_1 (by decide) ?_
  refine zz_put C hK hP hD hS fl_Mo_72 0 rfl rfl rfl (Nat.le_of_ble_eq_true rfl) d_Mo_crossing_2 (fun H locs hP hD hS => ?_)
  have hP : va_P E.1 vwCl [(y0, .inr (7, [.int 0, v1, v2, v3, v4, .int (nI k), .ref z5, .int sp, .ref w1, .ref w2, .ref w3, .ref w4, .ref w5, .ref w6, .ref w7, .int mx, v16, .int tt, .int bo, .ref z6, .ref z7, v21, v22, v23, v24, v25, v26, v27])), (z5, zI E 100 fU), (z6, zI E 8 fL), (z7, zI E 8 fN), (w1, zI E 10000 f1), (w2, zI E 10000 f2), (w3, zI E 10000 fQ), (w4, zI E 10000 fP), (w5, zI E 10000 fA), (w6, zI E 10000 fB), (w7, zZ E 10000 fE)] H := hP
  have hD : va_D A [(y0, .inr (7, [.int 0, v1, v2, v3, v4, .int (nI k), .ref z5, .int sp, .ref w1, .ref w2, .ref w3, .ref w4, .ref w5, .ref w6, .ref w7, .int mx, v16, .int tt, .int bo, .ref z6, .ref z7, v21, v22, v23, v24, v25, v26, v27])), (z5, zI E 100 fU), (z6, zI E 8 fL), (z7, zI E 8 fN), (w1, zI E 10000 f1), (w2, zI E 10000 f2), (w3, zI E 10000 fQ), (w4, zI E 10000 fP), (w5, zI E 10000 fA), (w6, zI E 10000 fB), (w7, zZ E 10000 fE)] := hD
  refine lv_aload_n hx hb d_Mo_crossing_5 rfl (lv_at hl 0 rfl) ?_
  refine lv_iconst (v := 0) hx hb d_Mo_crossing_6 (by decide) ?_
  refine zz_put C hK hP hD hS fl_Mo_78 0 rfl rfl rfl (Nat.le_of_ble_eq_true rfl) d_Mo_crossing_7 (fun H locs hP hD hS => ?_)
  have hP : va_P E.1 vwCl [(y0, .inr (7, [.int 0, v1, v2, v3, v4, .int (nI k), .ref z5, .int 0, .ref w1, .ref w2, .ref w3, .ref w4, .ref w5, .ref w6, .ref w7, .int mx, v16, .int tt, .int bo, .ref z6, .ref z7, v21, v22, v23, v24, v25, v26, v27])), (z5, zI E 100 fU), (z6, zI E 8 fL), (z7, zI E 8 fN), (w1, zI E 10000 f1), (w2, zI E 10000 f2), (w3, zI E 10000 fQ), (w4, zI E 10000 fP), (w5, zI E 10000 fA), (w6, zI E 10000 fB), (w7, zZ E 10000 fE)] H := hP
  have hD : va_D A [(y0, .inr (7, [.int 0, v1, v2, v3, v4, .int (nI k), .ref z5, .int 0, .ref w1, .ref w2, .ref w3, .ref w4, .ref w5, .ref w6, .ref w7, .int mx, v16, .int tt, .int bo, .ref z6, .ref z7, v21, v22, v23, v24, v25, v26, v27])), (z5, zI E 100 fU), (z6, zI E 8 fL), (z7, zI E 8 fN), (w1, zI E 10000 f1), (w2, zI E 10000 f2), (w3, zI E 10000 fQ), (w4, zI E 10000 fP), (w5, zI E 10000 fA), (w6, zI E 10000 fB), (w7, zZ E 10000 fE)] := hD
  refine lv_aload_n hx hb d_Mo_crossing_10 rfl (lv_at hl 0 rfl) ?_
  refine zz_goi (wr := [(w1, zI E 10000 f1), (w2, zI E 10000 f2), (w3, zI E 10000 fQ), (w4, zI E 10000 fP), (w5, zI E 10000 fA), (w6, zI E 10000 fB), (w7, zZ E 10000 fE)]) [0, 1, 2, 3] [4, 5, 6, 7, 8, 9, 10] rfl rfl (by decide) (by decide) hA hP hD hS (zz_runV (wc := [(y0, .inr (7, [.int 0, v1, v2, v3, v4, .int (nI k), .ref z5, .int 0, .ref w1, .ref w2, .ref w3, .ref w4, .ref w5, .ref w6, .ref w7, .int mx, v16, .int tt, .int bo, .ref z6, .ref z7, v21, v22, v23, v24, v25, v26, v27])), (z5, zI E 100 fU), (z6, zI E 8 fL), (z7, zI E 8 fN)]) (As := []) (rest := []) C (c_Mo_parse l E y0 (.int 0) v1 v2 v3 v4 (.int 0) (.ref w1) (.ref w2) (.ref w3) (.ref w4) (.ref w5) (.ref w6) (.ref w7) (.int mx) v16 v21 v22 v23 v24 v25 v26 v27 z5 z6 z7 k fU fL fN tt bo hk) ym_Mo_parse wd_ml_Mo_126 wd_im_Mo_parse wd_se_Mo_parse [0, 1, 2, 3] (by decide) rfl hA hK hst hP hD hS (ci := 7) (q0 := 0) rfl rfl rfl rfl hl.1 rfl (Nat.le_of_ble_eq_true rfl) ⟨Nat.le_of_ble_eq_true rfl, Nat.le_of_ble_eq_true rfl⟩ ⟨Nat.le_of_ble_eq_true rfl, Nat.le_of_ble_eq_true rfl⟩ d_Mo_crossing_11) (fun r1 u1 H locs hw1 hP hD hS => ?_)
  have hP : va_P E.1 vwCl [(w1, zI E 10000 f1), (w2, zI E 10000 f2), (w3, zI E 10000 fQ), (w4, zI E 10000 fP), (w5, zI E 10000 fA), (w6, zI E 10000 fB), (w7, zZ E 10000 fE), (y0, .inr (7, [.int 0, v1, v2, v3, v4, .int (nI k), .ref z5, .int 0, .ref w1, .ref w2, .ref w3, .ref w4, .ref w5, .ref w6, .ref w7, .int mx, v16, .int (nI u1.2.2.1), .int u1.2.2.2, .ref z6, .ref z7, v21, v22, v23, v24, v25, v26, v27])), (z5, zI E 100 fU), (z6, zI E 8 u1.1), (z7, zI E 8 u1.2.1)] H := hP
  have hD : va_D A [(w1, zI E 10000 f1), (w2, zI E 10000 f2), (w3, zI E 10000 fQ), (w4, zI E 10000 fP), (w5, zI E 10000 fA), (w6, zI E 10000 fB), (w7, zZ E 10000 fE), (y0, .inr (7, [.int 0, v1, v2, v3, v4, .int (nI k), .ref z5, .int 0, .ref w1, .ref w2, .ref w3, .ref w4, .ref w5, .ref w6, .ref w7, .int mx, v16, .int (nI u1.2.2.1), .int u1.2.2.2, .ref z6, .ref z7, v21, v22, v23, v24, v25, v26, v27])), (z5, zI E 100 fU), (z6, zI E 8 u1.1), (z7, zI E 8 u1.2.1)] := hD
  have hP := hP.sub (ws' := [(y0, .inr (7, [.int 0, v1, v2, v3, v4, .int (nI k), .ref z5, .int 0, .ref w1, .ref w2, .ref w3, .ref w4, .ref w5, .ref w6, .ref w7, .int mx, v16, .int (nI u1.2.2.1), .int u1.2.2.2, .ref z6, .ref z7, v21, v22, v23, v24, v25, v26, v27])), (z5, zI E 100 fU), (z6, zI E 8 u1.1), (z7, zI E 8 u1.2.1), (w1, zI E 10000 f1), (w2, zI E 10000 f2), (w3, zI E 10000 fQ), (w4, zI E 10000 fP), (w5, zI E 10000 fA), (w6, zI E 10000 fB), (w7, zZ E 10000 fE)]) [7, 8, 9, 10, 0, 1, 2, 3, 4, 5, 6] rfl
  have hD := hD.sub (ws' := [(y0, .inr (7, [.int 0, v1, v2, v3, v4, .int (nI k), .ref z5, .int 0, .ref w1, .ref w2, .ref w3, .ref w4, .ref w5, .ref w6, .ref w7, .int mx, v16, .int (nI u1.2.2.1), .int u1.2.2.2, .ref z6, .ref z7, v21, v22, v23, v24, v25, v26, v27])), (z5, zI E 100 fU), (z6, zI E 8 u1.1), (z7, zI E 8 u1.2.1), (w1, zI E 10000 f1), (w2, zI E 10000 f2), (w3, zI E 10000 fQ), (w4, zI E 10000 fP), (w5, zI E 10000 fA), (w6, zI E 10000 fB), (w7, zZ E 10000 fE)]) [7, 8, 9, 10, 0, 1, 2, 3, 4, 5, 6] (by decide) rfl
  obtain ⟨e1, e2, e3⟩ := mo_cr hw1
  refine lv_istore_n (lv' := [(1, .int r1), (0, .ref y0)]) hx hb d_Mo_crossing_14 rfl hl (by decide) rfl (fun ls hl => ?_)
  refine lv_aload_n hx hb d_Mo_crossing_15 rfl (lv_at hl 1 rfl) ?_
  refine lv_iconst (v := 0) hx hb d_Mo_crossing_16 (by decide) ?_
  refine zz_put C hK hP hD hS fl_Mo_111 0 rfl rfl rfl (Nat.le_of_ble_eq_true rfl) d_Mo_crossing_17 (fun H locs hP hD hS => ?_)
  have hP : va_P E.1 vwCl [(y0, .inr (7, [.int 0, v1, v2, v3, v4, .int 0, .ref z5, .int 0, .ref w1, .ref w2, .ref w3, .ref w4, .ref w5, .ref w6, .ref w7, .int mx, v16, .int (nI u1.2.2.1), .int u1.2.2.2, .ref z6, .ref z7, v21, v22, v23, v24, v25, v26, v27])), (z5, zI E 100 fU), (z6, zI E 8 u1.1), (z7, zI E 8 u1.2.1), (w1, zI E 10000 f1), (w2, zI E 10000 f2), (w3, zI E 10000 fQ), (w4, zI E 10000 fP), (w5, zI E 10000 fA), (w6, zI E 10000 fB), (w7, zZ E 10000 fE)] H := hP
  have hD : va_D A [(y0, .inr (7, [.int 0, v1, v2, v3, v4, .int 0, .ref z5, .int 0, .ref w1, .ref w2, .ref w3, .ref w4, .ref w5, .ref w6, .ref w7, .int mx, v16, .int (nI u1.2.2.1), .int u1.2.2.2, .ref z6, .ref z7, v21, v22, v23, v24, v25, v26, v27])), (z5, zI E 100 fU), (z6, zI E 8 u1.1), (z7, zI E 8 u1.2.1), (w1, zI E 10000 f1), (w2, zI E 10000 f2), (w3, zI E 10000 fQ), (w4, zI E 10000 fP), (w5, zI E 10000 fA), (w6, zI E 10000 fB), (w7, zZ E 10000 fE)] := hD
  refine lv_iload_n hx hb d_Mo_crossing_20 rfl (lv_at hl 0 rfl) ?_
  refine lv_if_lt (tgt := 29) hx hb d_Mo_crossing_21 (by decide) (fun c_25 => ?_) (fun c_25 => ?_)
  · obtain ⟨e4, e5, e6⟩ := e3 hR1
    obtain ⟨gL, gN, t, b1⟩ := u1
    have e2 : t = (cr_T (rt_u fU k)).2.2 := e2
    have e5 : b1 = nI (cr_bt (rt_u fU k) k) := e5
    have e4 : ∀ j, j < 8 → gN j = nI ((cr_nw (rt_u fU k) k) j) ∧ (cr_nw (rt_u fU k) k) j < 256 := e4
    have ht := cr_t_le (rt_u fU k)
    have hP : va_P E.1 vwCl [(y0, .inr (7, [.int 0, v1, v2, v3, v4, .int 0, .ref z5, .int 0, .ref w1, .ref w2, .ref w3, .ref w4, .ref w5, .ref w6, .ref w7, .int mx, v16, .int (nI (cr_T (rt_u fU k)).2.2), .int (nI (cr_bt (rt_u fU k) k)), .ref z6, .ref z7, v21, v22, v23, v24, v25, v26, v27])), (z5, zI E 100 fU), (z6, zI E 8 gL), (z7, zI E 8 gN), (w1, zI E 10000 f1), (w2, zI E 10000 f2), (w3, zI E 10000 fQ), (w4, zI E 10000 fP), (w5, zI E 10000 fA), (w6, zI E 10000 fB), (w7, zZ E 10000 fE)] H := by rw [← e2, ← e5]; exact hP
    have hD : va_D A [(y0, .inr (7, [.int 0, v1, v2, v3, v4, .int 0, .ref z5, .int 0, .ref w1, .ref w2, .ref w3, .ref w4, .ref w5, .ref w6, .ref w7, .int mx, v16, .int (nI (cr_T (rt_u fU k)).2.2), .int (nI (cr_bt (rt_u fU k) k)), .ref z6, .ref z7, v21, v22, v23, v24, v25, v26, v27])), (z5, zI E 100 fU), (z6, zI E 8 gL), (z7, zI E 8 gN), (w1, zI E 10000 f1), (w2, zI E 10000 f2), (w3, zI E 10000 fQ), (w4, zI E 10000 fP), (w5, zI E 10000 fA), (w6, zI E 10000 fB), (w7, zZ E 10000 fE)] := by rw [← e2, ← e5]; exact hD
    refine lv_iconst (v := 1) hx hb d_Mo_crossing_29 (by decide) ?_
    refine lv_aload_n hx hb d_Mo_crossing_30 rfl (lv_at hl 1 rfl) ?_
    refine zz_get C hK hP fl_Mo_114 0 rfl rfl d_Mo_crossing_31 ?_
    refine lv_ishl hx hb d_Mo_crossing_34 ?_
    refine lv_iconst (v := 1) hx hb d_Mo_crossing_35 (by decide) ?_
    refine lv_isub hx hb d_Mo_crossing_36 ?_
    refine zz_eqi (y := nI (2 ^ (cr_T (rt_u fU k)).2.2 - 1)) (rv_all (cr_T (rt_u fU k)).2.2 (by omega)) ?_
    refine lv_istore_n (lv' := [(2, .int (nI (2 ^ (cr_T (rt_u fU k)).2.2 - 1))), (1, .int r1), (0, .ref y0)]) hx hb d_Mo_crossing_37 rfl hl (by decide) rfl (fun ls hl => ?_)
    refine lv_aload_n hx hb d_Mo_crossing_38 rfl (lv_at hl 2 rfl) ?_
    refine lv_iconst (v := 0) hx hb d_Mo_crossing_39 (by decide) ?_
    refine zz_eqi (y := nI 0) (rfl) ?_
    refine zz_gov (wr := [(z5, zI E 100 fU), (z6, zI E 8 gL), (z7, zI E 8 gN), (w1, zI E 10000 f1), (w2, zI E 10000 f2)]) [0, 6, 7, 8, 9, 10] [1, 2, 3, 4, 5] rfl rfl (by decide) (by decide) hA hP hD hS (zz_runV (wc := [(y0, .inr (7, [.int 0, v1, v2, v3, v4, .int 0, .ref z5, .int 0, .ref w1, .ref w2, .ref w3, .ref w4, .ref w5, .ref w6, .ref w7, .int mx, v16, .int (nI (cr_T (rt_u fU k)).2.2), .int (nI (cr_bt (rt_u fU k) k)), .ref z6, .ref z7, v21, v22, v23, v24, v25, v26, v27])), (w3, zI E 10000 fQ), (w4, zI E 10000 fP), (w5, zI E 10000 fA), (w6, zI E 10000 fB), (w7, zZ E 10000 fE)]) (As := [.int (nI 0)]) (rest := []) C (c_Mo_begin l E y0 (.int 0) v1 v2 v3 v4 (.int 0) (.ref z5) (.int 0) (.ref w1) (.ref w2) v16 (.int (nI (cr_T (rt_u fU k)).2.2)) (.int (nI (cr_bt (rt_u fU k) k))) (.ref z6) (.ref z7) v21 v22 v23 v24 v25 v26 v27 w3 w4 w5 w6 w7 fE fQ fP fA fB mx 0 (by decide)) ym_Mo_begin wd_ml_Mo_96 wd_im_Mo_begin wd_se_Mo_begin [0, 6, 7, 8, 9, 10] (by decide) rfl hA hK hst hP hD hS (ci := 7) (q0 := 0) rfl rfl rfl rfl hl.1 rfl (Nat.le_of_ble_eq_true rfl) ⟨Nat.le_of_ble_eq_true rfl, Nat.le_of_ble_eq_true rfl⟩ ⟨Nat.le_of_ble_eq_true rfl, Nat.le_of_ble_eq_true rfl⟩ d_Mo_crossing_40) (fun u2 H locs hw2 hP hD hS => ?_)
    have hP : va_P E.1 vwCl [(z5, zI E 100 fU), (z6, zI E 8 gL), (z7, zI E 8 gN), (w1, zI E 10000 f1), (w2, zI E 10000 f2), (y0, .inr (7, [.int 0, v1, v2, v3, v4, .int 0, .ref z5, .int 0, .ref w1, .ref w2, .ref w3, .ref w4, .ref w5, .ref w6, .ref w7, .int (nI u2.2.2.2.2.2), v16, .int (nI (cr_T (rt_u fU k)).2.2), .int (nI (cr_bt (rt_u fU k) k)), .ref z6, .ref z7, v21, v22, v23, v24, v25, v26, v27])), (w3, zI E 10000 u2.2.1), (w4, zI E 10000 u2.2.2.1), (w5, zI E 10000 u2.2.2.2.1), (w6, zI E 10000 u2.2.2.2.2.1), (w7, zZ E 10000 u2.1)] H := hP
    have hD : va_D A [(z5, zI E 100 fU), (z6, zI E 8 gL), (z7, zI E 8 gN), (w1, zI E 10000 f1), (w2, zI E 10000 f2), (y0, .inr (7, [.int 0, v1, v2, v3, v4, .int 0, .ref z5, .int 0, .ref w1, .ref w2, .ref w3, .ref w4, .ref w5, .ref w6, .ref w7, .int (nI u2.2.2.2.2.2), v16, .int (nI (cr_T (rt_u fU k)).2.2), .int (nI (cr_bt (rt_u fU k) k)), .ref z6, .ref z7, v21, v22, v23, v24, v25, v26, v27])), (w3, zI E 10000 u2.2.1), (w4, zI E 10000 u2.2.2.1), (w5, zI E 10000 u2.2.2.2.1), (w6, zI E 10000 u2.2.2.2.2.1), (w7, zZ E 10000 u2.1)] := hD
    obtain ⟨g2, hg2, hu2⟩ := hw2
    obtain ⟨hM, hmn⟩ := mr_come0 (N := 512) (φ := mo_phi) (a := 0) (fun x hx => hg2 _ (by have := mo_phi_lt hx; omega)) mo_phi_inj (by decide) hu2
    have hP : va_P E.1 vwCl [(z5, zI E 100 fU), (z6, zI E 8 gL), (z7, zI E 8 gN), (w1, zI E 10000 f1), (w2, zI E 10000 f2), (y0, .inr (7, [.int 0, v1, v2, v3, v4, .int 0, .ref z5, .int 0, .ref w1, .ref w2, .ref w3, .ref w4, .ref w5, .ref w6, .ref w7, .int (nI (bfs_mt bfs_0 0 (0, 0)).2.length), v16, .int (nI (cr_T (rt_u fU k)).2.2), .int (nI (cr_bt (rt_u fU k) k)), .ref z6, .ref z7, v21, v22, v23, v24, v25, v26, v27])), (w3, zI E 10000 u2.2.1), (w4, zI E 10000 u2.2.2.1), (w5, zI E 10000 u2.2.2.2.1), (w6, zI E 10000 u2.2.2.2.2.1), (w7, zZ E 10000 u2.1)] H := by
      have h9 := hP
      rw [hmn] at h9
      exact h9
    have hD : va_D A [(z5, zI E 100 fU), (z6, zI E 8 gL), (z7, zI E 8 gN), (w1, zI E 10000 f1), (w2, zI E 10000 f2), (y0, .inr (7, [.int 0, v1, v2, v3, v4, .int 0, .ref z5, .int 0, .ref w1, .ref w2, .ref w3, .ref w4, .ref w5, .ref w6, .ref w7, .int (nI (bfs_mt bfs_0 0 (0, 0)).2.length), v16, .int (nI (cr_T (rt_u fU k)).2.2), .int (nI (cr_bt (rt_u fU k) k)), .ref z6, .ref z7, v21, v22, v23, v24, v25, v26, v27])), (w3, zI E 10000 u2.2.1), (w4, zI E 10000 u2.2.2.1), (w5, zI E 10000 u2.2.2.2.1), (w6, zI E 10000 u2.2.2.2.2.1), (w7, zZ E 10000 u2.1)] := by
      have h9 := hD
      rw [hmn] at h9
      exact h9
    have hP := hP.sub (ws' := [(y0, .inr (7, [.int 0, v1, v2, v3, v4, .int 0, .ref z5, .int 0, .ref w1, .ref w2, .ref w3, .ref w4, .ref w5, .ref w6, .ref w7, .int (nI (bfs_mt bfs_0 0 (0, 0)).2.length), v16, .int (nI (cr_T (rt_u fU k)).2.2), .int (nI (cr_bt (rt_u fU k) k)), .ref z6, .ref z7, v21, v22, v23, v24, v25, v26, v27])), (z5, zI E 100 fU), (z6, zI E 8 gL), (z7, zI E 8 gN), (w1, zI E 10000 f1), (w2, zI E 10000 f2), (w3, zI E 10000 u2.2.1), (w4, zI E 10000 u2.2.2.1), (w5, zI E 10000 u2.2.2.2.1), (w6, zI E 10000 u2.2.2.2.2.1), (w7, zZ E 10000 u2.1)]) [5, 0, 1, 2, 3, 4, 6, 7, 8, 9, 10] rfl
    have hD := hD.sub (ws' := [(y0, .inr (7, [.int 0, v1, v2, v3, v4, .int 0, .ref z5, .int 0, .ref w1, .ref w2, .ref w3, .ref w4, .ref w5, .ref w6, .ref w7, .int (nI (bfs_mt bfs_0 0 (0, 0)).2.length), v16, .int (nI (cr_T (rt_u fU k)).2.2), .int (nI (cr_bt (rt_u fU k) k)), .ref z6, .ref z7, v21, v22, v23, v24, v25, v26, v27])), (z5, zI E 100 fU), (z6, zI E 8 gL), (z7, zI E 8 gN), (w1, zI E 10000 f1), (w2, zI E 10000 f2), (w3, zI E 10000 u2.2.1), (w4, zI E 10000 u2.2.2.1), (w5, zI E 10000 u2.2.2.2.1), (w6, zI E 10000 u2.2.2.2.2.1), (w7, zZ E 10000 u2.1)]) [5, 0, 1, 2, 3, 4, 6, 7, 8, 9, 10] (by decide) rfl
    refine lv_iconst (v := 0) hx hb d_Mo_crossing_43 (by decide) ?_
    refine zz_eqi (y := nI 0) (rfl) ?_
    refine lv_istore_n (lv' := [(3, .int (nI 0)), (2, .int (nI (2 ^ (cr_T (rt_u fU k)).2.2 - 1))), (1, .int r1), (0, .ref y0)]) hx hb d_Mo_crossing_44 rfl hl (by decide) rfl (fun ls hl => ?_)
    exact lp_Mo_crq rfl rfl rfl ht e6 e4 C hA hK hst 10000 0 u2.1 u2.2.1 u2.2.2.1 u2.2.2.2.1 u2.2.2.2.2.1 (bfs_mt bfs_0 0 (0, 0)) (by omega) rfl hM (bfs_st_J (by decide) (by decide) ⟨by decide, Nat.two_pow_pos _⟩) _ _ ls hP hD hS (lv_sub hl [3, 2, 1, 0] rfl)
  · exact absurd (by rw [e1, hR1]; decide) c_25
