set_option maxHeartbeats 4000000 in
set_option maxRecDepth 100000 in
theorem lp_Sp_tfh {p : Program} {l : Launch} {e : Env} {s : State} {m : MethodId} {below : List Frame} {meth : Method} {c : Code} {A : Nat → Prop}  {E : zG} {k : Nat} (hk : k ≤ 13) (C : cx p s m #[.int (nI k)] meth c b_Sp_triesForHeavier 3 y_Sp_triesForHeavier.cls (some .int)) (hA : ∀ q, s.heap.size ≤ q → A q) (hK : kt E s) (hst : stt A s s.heap) :
    ∀ (f i : Nat) (_ : i + f = 3) (_ : wg_h k f i = wg_h k 3 0) (H : Heap) (locs : List Loc) (ls : Array Slot), va_P E.1 vwCl [] H → va_D A [] → va_S A s.heap H locs → lv_has ls 3 [(0, .int (nI k)), (1, .int (nI i)), (2, .int (nI (3 ^ i)))] → W p l e (zR 0 0 0 0) s m #[.int (nI k)] below meth c H locs 0 0 (MQ below ((zQi E (S := Unit) (fun r _ => r = nI (wg_h k 3 0)) (fun _ => [])) A) #[.int (nI k)] s 0 0 A) (F0 m 4 ls []) := by
  obtain ⟨hx, hb, hr, hml, hown, hts, hlk⟩ := id C
  intro f
  induction f with
  | zero =>
    intro i hi hgo H locs ls hP hD hS hl
    have hi : i = 3 := by omega
    subst hi
    refine lv_iload_n hx hb d_Sp_triesForHeavier_4 rfl (lv_at hl 2 rfl) ?_
    refine lv_iload_n hx hb d_Sp_triesForHeavier_5 rfl (lv_at hl 0 rfl) ?_
    refine lv_icmp_ge (tgt := 19) hx hb d_Sp_triesForHeavier_6 (by decide) (fun c_1 => ?_) (fun c_1 => ?_)
    · refine lv_iload_n hx hb d_Sp_triesForHeavier_19 rfl (lv_at hl 1 rfl) ?_
      exact zz_reti C (rfl) hS () (by rw [← hgo]; rfl) hP hD d_Sp_triesForHeavier_20
    · exact absurd (nI_le (show k ≤ 3 ^ 3 by omega) (by decide)) c_1
  | succ f ih =>
    intro i hi hgo H locs ls hP hD hS hl
    have hp3 : 3 ^ i ≤ 27 := Nat.le_trans (Nat.pow_le_pow_right (by decide) (show i ≤ 3 by omega)) (by decide)
    refine lv_iload_n hx hb d_Sp_triesForHeavier_4 rfl (lv_at hl 2 rfl) ?_
    refine lv_iload_n hx hb d_Sp_triesForHeavier_5 rfl (lv_at hl 0 rfl) ?_
    refine lv_icmp_ge (tgt := 19) hx hb d_Sp_triesForHeavier_6 (by decide) (fun c_2 => ?_) (fun c_2 => ?_)
    · have hge : ¬ 3 ^ i < k := fun z => absurd c_2 (nI_ge z (by omega))
      refine lv_iload_n hx hb d_Sp_triesForHeavier_19 rfl (lv_at hl 1 rfl) ?_
      exact zz_reti C (rfl) hS () (by rw [← hgo, wg_h, if_neg hge]) hP hD d_Sp_triesForHeavier_20
    · have hlt : 3 ^ i < k := zz_ltc c_2 (by omega)
      refine lv_iinc (v := nI (i + 1)) (lv' := [(1, .int (nI (i + 1))), (0, .int (nI k)), (2, .int (nI (3 ^ i)))]) hx hb d_Sp_triesForHeavier_9 hl (k := 1) rfl (nI_1 _) (by decide) rfl (fun ls hl => ?_)
      refine lv_iload_n hx hb d_Sp_triesForHeavier_12 rfl (lv_at hl 2 rfl) ?_
      refine lv_iconst (v := 3) hx hb d_Sp_triesForHeavier_13 (by decide) ?_
      refine lv_imul hx hb d_Sp_triesForHeavier_14 ?_
      refine zz_eqi (y := nI (3 ^ (i + 1))) (pk_mul (3 ^ i) 3) ?_
      refine lv_istore_n (lv' := [(2, .int (nI (3 ^ (i + 1)))), (1, .int (nI (i + 1))), (0, .int (nI k))]) hx hb d_Sp_triesForHeavier_15 rfl hl (by decide) rfl (fun ls hl => ?_)
      refine lv_goto (tgt := 4) hx hb d_Sp_triesForHeavier_16 (by decide) ?_
      exact ih (i + 1) (by omega) (by rw [← hgo]; conv => rhs; rw [wg_h, if_pos hlt]) _ _ ls hP hD hS (lv_sub hl [2, 1, 0] rfl)

set_option maxHeartbeats 4000000 in
set_option maxRecDepth 100000 in
theorem c_Sp_triesForHeavier (l : Launch) (E : zG) (k : Nat) (hk : k ≤ 13) : zMet l y_Sp_triesForHeavier b_Sp_triesForHeavier 3 (some .int) 0 0 0 0 E [.int (nI k)] [] (zQi E (S := Unit) (fun r _ => r = nI (wg_h k 3 0)) (fun _ => [])) := by
  refine zz_met (by decide +kernel) (Nat.le_of_ble_eq_true rfl) ?_
  intro p e s m below meth c A ls C hin hA hK hst hP hD hl
  obtain ⟨hx, hb, hr, hml, hown, hts, hlk⟩ := id C
  have hS : va_S A s.heap s.heap [] := va_S.rf
  have hl : lv_has ls 3 [(0, .int (nI k))] := hl
  refine lv_iconst (v := 0) hx hb d_Sp_triesForHeavier_0 (by decide) ?_
  refine lv_istore_n (lv' := [(1, .int 0), (0, .int (nI k))]) hx hb d_Sp_triesForHeavier_1 rfl hl (by decide) rfl (fun ls hl => ?_)
  refine lv_iconst (v := 1) hx hb d_Sp_triesForHeavier_2 (by decide) ?_
  refine lv_istore_n (lv' := [(2, .int 1), (1, .int 0), (0, .int (nI k))]) hx hb d_Sp_triesForHeavier_3 rfl hl (by decide) rfl (fun ls hl => ?_)
  have hl := lv_sub (l' := [(0, .int (nI k)), (1, .int (nI 0)), (2, .int (nI (3 ^ 0)))]) hl [2, 1, 0] (rfl)
  exact lp_Sp_tfh hk C hA hK hst 3 0 (by omega) rfl _ _ ls hP hD hS hl

set_option maxHeartbeats 4000000 in
set_option maxRecDepth 100000 in
theorem lp_Sp_tfo {p : Program} {l : Launch} {e : Env} {s : State} {m : MethodId} {below : List Frame} {meth : Method} {c : Code} {A : Nat → Prop}  {E : zG} {k : Nat} (hk : k ≤ 13) (hk3 : ¬ k < 3) (C : cx p s m #[.int (nI k)] meth c b_Sp_triesForOdd 3 y_Sp_triesForOdd.cls (some .int)) (hA : ∀ q, s.heap.size ≤ q → A q) (hK : kt E s) (hst : stt A s s.heap) :
    ∀ (f j : Nat) (_ : j + f = 2) (_ : wg_o k f j = wg_o k 2 0) (H : Heap) (locs : List Loc) (ls : Array Slot), va_P E.1 vwCl [] H → va_D A [] → va_S A s.heap H locs → lv_has ls 3 [(0, .int (nI k)), (1, .int (nI (j + 2))), (2, .int (nI (wg_e j)))] → W p l e (zR 0 0 0 0) s m #[.int (nI k)] below meth c H locs 0 0 (MQ below ((zQi E (S := Unit) (fun r _ => r = if k < 3 then -1 else nI (wg_o k 2 0)) (fun _ => [])) A) #[.int (nI k)] s 0 0 A) (F0 m 11 ls []) := by
  obtain ⟨hx, hb, hr, hml, hown, hts, hlk⟩ := id C
  intro f
  induction f with
  | zero =>
    intro j hi hgo H locs ls hP hD hS hl
    have hi : j = 2 := by omega
    subst hi
    refine lv_iload_n hx hb d_Sp_triesForOdd_11 rfl (lv_at hl 2 rfl) ?_
    refine lv_iload_n hx hb d_Sp_triesForOdd_12 rfl (lv_at hl 0 rfl) ?_
    refine lv_icmp_ge (tgt := 28) hx hb d_Sp_triesForOdd_13 (by decide) (fun c_3 => ?_) (fun c_3 => ?_)
    · refine lv_iload_n hx hb d_Sp_triesForOdd_28 rfl (lv_at hl 1 rfl) ?_
      exact zz_reti C (rfl) hS () (by rw [if_neg hk3, ← hgo]; rfl) hP hD d_Sp_triesForOdd_29
    · exact absurd (nI_le (show k ≤ wg_e 2 from Nat.le_trans hk (by decide)) (by decide)) c_3
  | succ f ih =>
    intro j hi hgo H locs ls hP hD hS hl
    have hp3 : wg_e j < 100 := by
      rcases (show j = 0 ∨ j = 1 by omega) with rfl | rfl <;> decide
    refine lv_iload_n hx hb d_Sp_triesForOdd_11 rfl (lv_at hl 2 rfl) ?_
    refine lv_iload_n hx hb d_Sp_triesForOdd_12 rfl (lv_at hl 0 rfl) ?_
    refine lv_icmp_ge (tgt := 28) hx hb d_Sp_triesForOdd_13 (by decide) (fun c_4 => ?_) (fun c_4 => ?_)
    · have hge : ¬ wg_e j < k := fun z => absurd c_4 (nI_ge z (by omega))
      refine lv_iload_n hx hb d_Sp_triesForOdd_28 rfl (lv_at hl 1 rfl) ?_
      exact zz_reti C (rfl) hS () (by rw [if_neg hk3, ← hgo, wg_o, if_neg hge]) hP hD d_Sp_triesForOdd_29
    · have hlt : wg_e j < k := zz_ltc c_4 (by omega)
      refine lv_iinc (v := nI (j + 1 + 2)) (lv' := [(1, .int (nI (j + 1 + 2))), (0, .int (nI k)), (2, .int (nI (wg_e j)))]) hx hb d_Sp_triesForOdd_16 hl (k := 1) rfl ((nI_1 (j + 2)).trans (congrArg nI (by omega))) (by decide) rfl (fun ls hl => ?_)
      refine lv_iload_n hx hb d_Sp_triesForOdd_19 rfl (lv_at hl 2 rfl) ?_
      refine lv_iconst (v := 3) hx hb d_Sp_triesForOdd_20 (by decide) ?_
      refine lv_imul hx hb d_Sp_triesForOdd_21 ?_
      refine zz_eqi (y := nI (wg_e j * 3)) (pk_mul (wg_e j) 3) ?_
      refine lv_iconst (v := 3) hx hb d_Sp_triesForOdd_22 (by decide) ?_
      refine lv_iadd hx hb d_Sp_triesForOdd_23 ?_
      refine zz_eqi (y := nI (wg_e (j + 1))) (nI_add (wg_e j * 3) 3) ?_
      refine lv_istore_n (lv' := [(2, .int (nI (wg_e (j + 1)))), (1, .int (nI (j + 1 + 2))), (0, .int (nI k))]) hx hb d_Sp_triesForOdd_24 rfl hl (by decide) rfl (fun ls hl => ?_)
      refine lv_goto (tgt := 11) hx hb d_Sp_triesForOdd_25 (by decide) ?_
      exact ih (j + 1) (by omega) (by rw [← hgo]; conv => rhs; rw [wg_o, if_pos hlt]) _ _ ls hP hD hS (lv_sub hl [2, 1, 0] rfl)

set_option maxHeartbeats 4000000 in
set_option maxRecDepth 100000 in
theorem c_Sp_triesForOdd (l : Launch) (E : zG) (k : Nat) (hk : k ≤ 13) : zMet l y_Sp_triesForOdd b_Sp_triesForOdd 3 (some .int) 0 0 0 0 E [.int (nI k)] [] (zQi E (S := Unit) (fun r _ => r = if k < 3 then -1 else nI (wg_o k 2 0)) (fun _ => [])) := by
  refine zz_met (by decide +kernel) (Nat.le_of_ble_eq_true rfl) ?_
  intro p e s m below meth c A ls C hin hA hK hst hP hD hl
  obtain ⟨hx, hb, hr, hml, hown, hts, hlk⟩ := id C
  have hS : va_S A s.heap s.heap [] := va_S.rf
  have hl : lv_has ls 3 [(0, .int (nI k))] := hl
  refine lv_iload_n hx hb d_Sp_triesForOdd_0 rfl (lv_at hl 0 rfl) ?_
  refine lv_iconst (v := 3) hx hb d_Sp_triesForOdd_1 (by decide) ?_
  refine lv_icmp_ge (tgt := 7) hx hb d_Sp_triesForOdd_2 (by decide) (fun c_5 => ?_) (fun c_5 => ?_)
  · have hk3 : ¬ k < 3 := fun z => absurd c_5 (nI_ge z (by decide))
    refine lv_iconst (v := 2) hx hb d_Sp_triesForOdd_7 (by decide) ?_
    refine lv_istore_n (lv' := [(1, .int 2), (0, .int (nI k))]) hx hb d_Sp_triesForOdd_8 rfl hl (by decide) rfl (fun ls hl => ?_)
    refine lv_iconst (v := 3) hx hb d_Sp_triesForOdd_9 (by decide) ?_
    refine lv_istore_n (lv' := [(2, .int 3), (1, .int 2), (0, .int (nI k))]) hx hb d_Sp_triesForOdd_10 rfl hl (by decide) rfl (fun ls hl => ?_)
    have hl := lv_sub (l' := [(0, .int (nI k)), (1, .int (nI (0 + 2))), (2, .int (nI (wg_e 0)))]) hl [2, 1, 0] (rfl)
    exact lp_Sp_tfo hk hk3 C hA hK hst 2 0 (by omega) rfl _ _ ls hP hD hS hl
  · have hk3 : k < 3 := zz_ltc c_5 (by omega)
    refine lv_iconst (v := (-1)) hx hb d_Sp_triesForOdd_5 (by decide) ?_
    exact zz_reti C (rfl) hS () (by rw [if_pos hk3]) hP hD d_Sp_triesForOdd_6

set_option maxHeartbeats 4000000 in
set_option maxRecDepth 100000 in
theorem c_Sp_weigh_bad (l : Launch) (E : zG) (o : Nat) (x y : Int32) (hb0 : x < 1 ∨ 13 < x) : zMet l y_Sp_weigh b_Sp_weigh 3 (some .int) 1 22 0 0 E [.ref o, .int x, .int y] [] (zQi E (S := Unit) (fun r _ => r = -2) (fun _ => [])) := by
  refine zz_met (by decide +kernel) (Nat.le_of_ble_eq_true rfl) ?_
  intro p e s m below meth c A ls C hin hA hK hst hP hD hl
  obtain ⟨hx, hb, hr, hml, hown, hts, hlk⟩ := id C
  have hS : va_S A s.heap s.heap [] := va_S.rf
  have hl : lv_has ls 3 [(0, .ref o), (1, .int x), (2, .int y)] := hl
  refine lv_iload_n hx hb d_Sp_weigh_0 rfl (lv_at hl 1 rfl) ?_
  refine lv_iconst (v := 1) hx hb d_Sp_weigh_1 (by decide) ?_
  refine lv_icmp_lt (tgt := 11) hx hb d_Sp_weigh_2 (by decide) (fun c_6 => ?_) (fun c_6 => ?_)
  · refine lv_bipush (v := (-2)) hx hb d_Sp_weigh_11 (by decide) ?_
    exact zz_reti C (rfl) hS () (rfl) hP hD d_Sp_weigh_13
  · refine lv_iload_n hx hb d_Sp_weigh_5 rfl (lv_at hl 1 rfl) ?_
    refine lv_bipush (v := 13) hx hb d_Sp_weigh_6 (by decide) ?_
    refine lv_icmp_le (tgt := 14) hx hb d_Sp_weigh_8 (by decide) (fun c_7 => ?_) (fun c_7 => ?_)
    · exact absurd hb0 (fun h => h.elim c_6 (fun h => zz_nle h c_7))
    · refine lv_bipush (v := (-2)) hx hb d_Sp_weigh_11 (by decide) ?_
      exact zz_reti C (rfl) hS () (rfl) hP hD d_Sp_weigh_13

set_option maxHeartbeats 4000000 in
set_option maxRecDepth 100000 in
theorem c_Sp_weigh_ok (l : Launch) (E : zG) (o k : Nat) (y : Int32) (h1 : 1 ≤ k) (hk : k ≤ 13) : zMet l y_Sp_weigh b_Sp_weigh 3 (some .int) 1 22 0 0 E [.ref o, .int (nI k), .int y] [] (zQi E (S := Unit) (fun r _ => r = wg k y) (fun _ => [])) := by
  refine zz_met (by decide +kernel) (Nat.le_of_ble_eq_true rfl) ?_
  intro p e s m below meth c A ls C hin hA hK hst hP hD hl
  obtain ⟨hx, hb, hr, hml, hown, hts, hlk⟩ := id C
  have hS : va_S A s.heap s.heap [] := va_S.rf
  have hl : lv_has ls 3 [(0, .ref o), (1, .int (nI k)), (2, .int y)] := hl
  refine lv_iload_n hx hb d_Sp_weigh_0 rfl (lv_at hl 1 rfl) ?_
  refine lv_iconst (v := 1) hx hb d_Sp_weigh_1 (by decide) ?_
  refine lv_icmp_lt (tgt := 11) hx hb d_Sp_weigh_2 (by decide) (fun c_8 => ?_) (fun c_8 => ?_)
  · exact absurd c_8 (nI_nlt (b := 1) h1 (by omega))
  · refine lv_iload_n hx hb d_Sp_weigh_5 rfl (lv_at hl 1 rfl) ?_
    refine lv_bipush (v := 13) hx hb d_Sp_weigh_6 (by decide) ?_
    refine lv_icmp_le (tgt := 14) hx hb d_Sp_weigh_8 (by decide) (fun c_9 => ?_) (fun c_9 => ?_)
    · refine lv_iload_n hx hb d_Sp_weigh_14 rfl (lv_at hl 2 rfl) ?_
      refine lv_if_ne (tgt := 23) hx hb d_Sp_weigh_15 (by decide) (fun c_10 => ?_) (fun c_10 => ?_)
      · refine lv_iload_n hx hb d_Sp_weigh_23 rfl (lv_at hl 2 rfl) ?_
        refine lv_iconst (v := 1) hx hb d_Sp_weigh_24 (by decide) ?_
        refine lv_icmp_ne (tgt := 35) hx hb d_Sp_weigh_25 (by decide) (fun c_12 => ?_) (fun c_12 => ?_)
        · refine lv_bipush (v := (-2)) hx hb d_Sp_weigh_35 (by decide) ?_
          exact zz_reti C (rfl) hS () (by unfold wg; rw [if_neg c_10, if_neg c_12]) hP hD d_Sp_weigh_37
        · refine lv_iload_n hx hb d_Sp_weigh_28 rfl (lv_at hl 1 rfl) ?_
          refine zz_goi (wr := []) [] [] rfl rfl (by decide) (by decide) hA hP hD hS (zz_runS (wc := []) (As := [.int (nI k)]) (rest := []) C (c_Sp_triesForOdd l E k hk) ym_Sp_triesForOdd wd_ml_Sp_84 wd_st_Sp_triesForOdd [] (by decide) rfl hA hK hst hP hD hS rfl hl.1 rfl (Nat.le_of_ble_eq_true rfl) ⟨Nat.le_of_ble_eq_true rfl, Nat.le_of_ble_eq_true rfl⟩ ⟨Nat.le_of_ble_eq_true rfl, Nat.le_of_ble_eq_true rfl⟩ d_Sp_weigh_29) (fun r_13 u H locs hw hP hD hS => ?_)
          have hP : va_P E.1 vwCl [] H := hP
          have hD : va_D A [] := hD
          refine lv_goto (tgt := 37) hx hb d_Sp_weigh_32 (by decide) ?_
          exact zz_reti C (rfl) hS () (by rw [hw]; unfold wg; rw [if_neg c_10, if_pos c_12]) hP hD d_Sp_weigh_37
      · refine lv_iload_n hx hb d_Sp_weigh_18 rfl (lv_at hl 1 rfl) ?_
        refine zz_goi (wr := []) [] [] rfl rfl (by decide) (by decide) hA hP hD hS (zz_runS (wc := []) (As := [.int (nI k)]) (rest := []) C (c_Sp_triesForHeavier l E k hk) ym_Sp_triesForHeavier wd_ml_Sp_81 wd_st_Sp_triesForHeavier [] (by decide) rfl hA hK hst hP hD hS rfl hl.1 rfl (Nat.le_of_ble_eq_true rfl) ⟨Nat.le_of_ble_eq_true rfl, Nat.le_of_ble_eq_true rfl⟩ ⟨Nat.le_of_ble_eq_true rfl, Nat.le_of_ble_eq_true rfl⟩ d_Sp_weigh_19) (fun r_11 u H locs hw hP hD hS => ?_)
        have hP : va_P E.1 vwCl [] H := hP
        have hD : va_D A [] := hD
        exact zz_reti C (rfl) hS () (by rw [hw]; unfold wg; rw [if_pos c_10]) hP hD d_Sp_weigh_22
    · exact absurd (nI_le (b := 13) hk (by decide)) c_9

set_option maxHeartbeats 4000000 in
set_option maxRecDepth 100000 in
theorem c_Sp_ringSteps (l : Launch) (E : zG) (n : Nat) (hn : n ≤ 60) : zMet l y_Sp_ringSteps b_Sp_ringSteps 1 (some .long) 0 0 0 0 E [.int (nI n)] [] (zQl E (S := Unit) (fun r _ => r = lN (rg n)) (fun _ => [])) := by
  refine zz_met (by decide +kernel) (Nat.le_of_ble_eq_true rfl) ?_
  intro p e s m below meth c A ls C hin hA hK hst hP hD hl
  obtain ⟨hx, hb, hr, hml, hown, hts, hlk⟩ := id C
  have hS : va_S A s.heap s.heap [] := va_S.rf
  have hl : lv_has ls 1 [(0, .int (nI n))] := hl
  refine lv_ldc2 (v := 2) hx hb hown (hts _ wk_Sp_132) d_Sp_ringSteps_0 ?_
  refine lv_iload_n hx hb d_Sp_ringSteps_3 rfl (lv_at hl 0 rfl) ?_
  refine lv_lshl (v := 2 <<< ((nI n).toInt64 &&& 63)) hx hb d_Sp_ringSteps_4 (rfl) ?_
  refine lv_ldc2 (v := 3) hx hb hown (hts _ wk_Sp_134) d_Sp_ringSteps_5 ?_
  refine lv_ldiv hx hb d_Sp_ringSteps_8 (by decide) ?_
  exact zz_retl C hS () ((rg_E n (by omega)).1) hP hD d_Sp_ringSteps_9

set_option maxHeartbeats 4000000 in
set_option maxRecDepth 100000 in
theorem c_Sp_rings_bad (l : Launch) (E : zG) (o : Nat) (x : Int32) (hb0 : x < 0 ∨ 60 < x) : zMet l y_Sp_rings b_Sp_rings 2 (some .long) 1 20 0 0 E [.ref o, .int x] [] (zQl E (S := Unit) (fun r _ => r = -1) (fun _ => [])) := by
  refine zz_met (by decide +kernel) (Nat.le_of_ble_eq_true rfl) ?_
  intro p e s m below meth c A ls C hin hA hK hst hP hD hl
  obtain ⟨hx, hb, hr, hml, hown, hts, hlk⟩ := id C
  have hS : va_S A s.heap s.heap [] := va_S.rf
  have hl : lv_has ls 2 [(0, .ref o), (1, .int x)] := hl
  refine lv_iload_n hx hb d_Sp_rings_0 rfl (lv_at hl 1 rfl) ?_
  refine lv_if_lt (tgt := 10) hx hb d_Sp_rings_1 (by decide) (fun c_14 => ?_) (fun c_14 => ?_)
  · refine lv_ldc2 (v := (-1)) hx hb hown (hts _ wk_Sp_94) d_Sp_rings_10 ?_
    refine lv_goto (tgt := 20) hx hb d_Sp_rings_13 (by decide) ?_
    exact zz_retl C hS () (rfl) hP hD d_Sp_rings_20
  · refine lv_iload_n hx hb d_Sp_rings_4 rfl (lv_at hl 1 rfl) ?_
    refine lv_bipush (v := 60) hx hb d_Sp_rings_5 (by decide) ?_
    refine lv_icmp_le (tgt := 16) hx hb d_Sp_rings_7 (by decide) (fun c_15 => ?_) (fun c_15 => ?_)
    · exact absurd hb0 (fun h => h.elim c_14 (fun h => zz_nle h c_15))
    · refine lv_ldc2 (v := (-1)) hx hb hown (hts _ wk_Sp_94) d_Sp_rings_10 ?_
      refine lv_goto (tgt := 20) hx hb d_Sp_rings_13 (by decide) ?_
      exact zz_retl C hS () (rfl) hP hD d_Sp_rings_20

set_option maxHeartbeats 4000000 in
set_option maxRecDepth 100000 in
theorem c_Sp_rings_ok (l : Launch) (E : zG) (o n : Nat) (hn : n ≤ 60) : zMet l y_Sp_rings b_Sp_rings 2 (some .long) 1 20 0 0 E [.ref o, .int (nI n)] [] (zQl E (S := Unit) (fun r _ => r = lN (rg n)) (fun _ => [])) := by
  refine zz_met (by decide +kernel) (Nat.le_of_ble_eq_true rfl) ?_
  intro p e s m below meth c A ls C hin hA hK hst hP hD hl
  obtain ⟨hx, hb, hr, hml, hown, hts, hlk⟩ := id C
  have hS : va_S A s.heap s.heap [] := va_S.rf
  have hl : lv_has ls 2 [(0, .ref o), (1, .int (nI n))] := hl
  refine lv_iload_n hx hb d_Sp_rings_0 rfl (lv_at hl 1 rfl) ?_
  refine lv_if_lt (tgt := 10) hx hb d_Sp_rings_1 (by decide) (fun c_16 => ?_) (fun c_16 => ?_)
  · exact absurd c_16 (nI_pos (by omega))
  · refine lv_iload_n hx hb d_Sp_rings_4 rfl (lv_at hl 1 rfl) ?_
    refine lv_bipush (v := 60) hx hb d_Sp_rings_5 (by decide) ?_
    refine lv_icmp_le (tgt := 16) hx hb d_Sp_rings_7 (by decide) (fun c_17 => ?_) (fun c_17 => ?_)
    · refine lv_iload_n hx hb d_Sp_rings_16 rfl (lv_at hl 1 rfl) ?_
      refine zz_gol (wr := []) [] [] rfl rfl (by decide) (by decide) hA hP hD hS (zz_runS (wc := []) (As := [.int (nI n)]) (rest := []) C (c_Sp_ringSteps l E n hn) ym_Sp_ringSteps wd_ml_Sp_100 wd_st_Sp_ringSteps [] (by decide) rfl hA hK hst hP hD hS rfl hl.1 rfl (Nat.le_of_ble_eq_true rfl) ⟨Nat.le_of_ble_eq_true rfl, Nat.le_of_ble_eq_true rfl⟩ ⟨Nat.le_of_ble_eq_true rfl, Nat.le_of_ble_eq_true rfl⟩ d_Sp_rings_17) (fun r_18 u H locs hw hP hD hS => ?_)
      have hP : va_P E.1 vwCl [] H := hP
      have hD : va_D A [] := hD
      exact zz_retl C hS () (hw) hP hD d_Sp_rings_20
    · exact absurd (nI_le (b := 60) hn (by decide)) c_17

set_option maxHeartbeats 4000000 in
set_option maxRecDepth 100000 in
theorem c_Sp_ring_bad (l : Launch) (E : zG) (o : Nat) (x : Int32) (sx : Int64) (hb0 : x < 0 ∨ 60 < x) : zMet l y_Sp_ring b_Sp_ring 6 (some .long) 1 20 0 0 E [.ref o, .int x, .long sx] [] (zQl E (S := Unit) (fun r _ => r = -1) (fun _ => [])) := by
  refine zz_met (by decide +kernel) (Nat.le_of_ble_eq_true rfl) ?_
  intro p e s m below meth c A ls C hin hA hK hst hP hD hl
  obtain ⟨hx, hb, hr, hml, hown, hts, hlk⟩ := id C
  have hS : va_S A s.heap s.heap [] := va_S.rf
  have hl : lv_has ls 6 [(0, .ref o), (1, .int x), (2, .long sx)] := hl
  refine lv_iload_n hx hb d_Sp_ring_0 rfl (lv_at hl 1 rfl) ?_
  refine lv_if_lt (tgt := 25) hx hb d_Sp_ring_1 (by decide) (fun c_19 => ?_) (fun c_19 => ?_)
  · refine lv_ldc2 (v := (-1)) hx hb hown (hts _ wk_Sp_94) d_Sp_ring_25 ?_
    exact zz_retl C hS () (rfl) hP hD d_Sp_ring_28
  · refine lv_iload_n hx hb d_Sp_ring_4 rfl (lv_at hl 1 rfl) ?_
    refine lv_bipush (v := 60) hx hb d_Sp_ring_5 (by decide) ?_
    refine lv_icmp_gt (tgt := 25) hx hb d_Sp_ring_7 (by decide) (fun c_20 => ?_) (fun c_20 => ?_)
    · refine lv_ldc2 (v := (-1)) hx hb hown (hts _ wk_Sp_94) d_Sp_ring_25 ?_
      exact zz_retl C hS () (rfl) hP hD d_Sp_ring_28
    · exact absurd hb0 (fun h => h.elim c_19 (fun h => c_20 h))

set_option maxHeartbeats 4000000 in
set_option maxRecDepth 100000 in
theorem c_Sp_ring_neg (l : Launch) (E : zG) (o n : Nat) (sx : Int64) (hn : n ≤ 60) (hs0 : sx < 0) : zMet l y_Sp_ring b_Sp_ring 6 (some .long) 1 20 0 0 E [.ref o, .int (nI n), .long sx] [] (zQl E (S := Unit) (fun r _ => r = -1) (fun _ => [])) := by
  refine zz_met (by decide +kernel) (Nat.le_of_ble_eq_true rfl) ?_
  intro p e s m below meth c A ls C hin hA hK hst hP hD hl
  obtain ⟨hx, hb, hr, hml, hown, hts, hlk⟩ := id C
  have hS : va_S A s.heap s.heap [] := va_S.rf
  have hl : lv_has ls 6 [(0, .ref o), (1, .int (nI n)), (2, .long sx)] := hl
  refine lv_iload_n hx hb d_Sp_ring_0 rfl (lv_at hl 1 rfl) ?_
  refine lv_if_lt (tgt := 25) hx hb d_Sp_ring_1 (by decide) (fun c_21 => ?_) (fun c_21 => ?_)
  · exact absurd c_21 (nI_pos (by omega))
  · refine lv_iload_n hx hb d_Sp_ring_4 rfl (lv_at hl 1 rfl) ?_
    refine lv_bipush (v := 60) hx hb d_Sp_ring_5 (by decide) ?_
    refine lv_icmp_gt (tgt := 25) hx hb d_Sp_ring_7 (by decide) (fun c_22 => ?_) (fun c_22 => ?_)
    · exact absurd (nI_le (b := 60) hn (by decide)) (zz_nle c_22)
    · refine lv_lload_n hx hb d_Sp_ring_10 rfl (lv_at hl 2 rfl) ?_
      refine lv_lconst (v := 0) hx hb d_Sp_ring_11 (by decide) ?_
      refine W.lcmp hx hb d_Sp_ring_12 ?_
      refine lv_if_lt (tgt := 25) hx hb d_Sp_ring_13 (by decide) (fun c_23 => ?_) (fun c_23 => ?_)
      · refine lv_ldc2 (v := (-1)) hx hb hown (hts _ wk_Sp_94) d_Sp_ring_25 ?_
        exact zz_retl C hS () (rfl) hP hD d_Sp_ring_28
      · exact absurd ((lg_cmp_lt _ _).mpr hs0) c_23

set_option maxHeartbeats 4000000 in
set_option maxRecDepth 100000 in
theorem c_Sp_ring_pos (l : Launch) (E : zG) (o n k : Nat) (hn : n ≤ 60) (hk : k < 9223372036854775808) : zMet l y_Sp_ring b_Sp_ring 6 (some .long) 1 20 0 0 E [.ref o, .int (nI n), .long (lN k)] [] (zQl E (S := Unit) (fun r _ => r = if k ≤ rg n then lN ((rg n - k) ^^^ ((rg n - k) / 2)) else -1) (fun _ => [])) := by
  refine zz_met (by decide +kernel) (Nat.le_of_ble_eq_true rfl) ?_
  intro p e s m below meth c A ls C hin hA hK hst hP hD hl
  obtain ⟨hx, hb, hr, hml, hown, hts, hlk⟩ := id C
  have hS : va_S A s.heap s.heap [] := va_S.rf
  have hl : lv_has ls 6 [(0, .ref o), (1, .int (nI n)), (2, .long (lN k))] := hl
  have hrg := (rg_E n (by omega)).2
  refine lv_iload_n hx hb d_Sp_ring_0 rfl (lv_at hl 1 rfl) ?_
  refine lv_if_lt (tgt := 25) hx hb d_Sp_ring_1 (by decide) (fun c_24 => ?_) (fun c_24 => ?_)
  · exact absurd c_24 (nI_pos (by omega))
  · refine lv_iload_n hx hb d_Sp_ring_4 rfl (lv_at hl 1 rfl) ?_
    refine lv_bipush (v := 60) hx hb d_Sp_ring_5 (by decide) ?_
    refine lv_icmp_gt (tgt := 25) hx hb d_Sp_ring_7 (by decide) (fun c_25 => ?_) (fun c_25 => ?_)
    · exact absurd (nI_le (b := 60) hn (by decide)) (zz_nle c_25)
    · refine lv_lload_n hx hb d_Sp_ring_10 rfl (lv_at hl 2 rfl) ?_
      refine lv_lconst (v := 0) hx hb d_Sp_ring_11 (by decide) ?_
      refine W.lcmp hx hb d_Sp_ring_12 ?_
      refine lv_if_lt (tgt := 25) hx hb d_Sp_ring_13 (by decide) (fun c_26 => ?_) (fun c_26 => ?_)
      · exact absurd ((lg_cmp_lt _ _).mp c_26) (by rw [show (0 : Int64) = lN 0 from rfl, pk_lLT hk (by decide)]; exact Nat.not_lt_zero _)
      · refine lv_lload_n hx hb d_Sp_ring_16 rfl (lv_at hl 2 rfl) ?_
        refine lv_iload_n hx hb d_Sp_ring_17 rfl (lv_at hl 1 rfl) ?_
        refine zz_gol (wr := []) [] [] rfl rfl (by decide) (by decide) hA hP hD hS (zz_runS (wc := []) (As := [.int (nI n)]) (rest := [.long (lN k)]) C (c_Sp_ringSteps l E n hn) ym_Sp_ringSteps wd_ml_Sp_100 wd_st_Sp_ringSteps [] (by decide) rfl hA hK hst hP hD hS rfl hl.1 rfl (Nat.le_of_ble_eq_true rfl) ⟨Nat.le_of_ble_eq_true rfl, Nat.le_of_ble_eq_true rfl⟩ ⟨Nat.le_of_ble_eq_true rfl, Nat.le_of_ble_eq_true rfl⟩ d_Sp_ring_18) (fun r_27 u H locs hw hP hD hS => ?_)
        have hP : va_P E.1 vwCl [] H := hP
        have hD : va_D A [] := hD
        subst hw
        refine W.lcmp hx hb d_Sp_ring_21 ?_
        refine lv_if_le (tgt := 29) hx hb d_Sp_ring_22 (by decide) (fun c_28 => ?_) (fun c_28 => ?_)
        · have hle : k ≤ rg n := (pk_lLE hk (by omega)).mp ((lg_cmp_le _ _).mp c_28)
          refine lv_iload_n hx hb d_Sp_ring_29 rfl (lv_at hl 1 rfl) ?_
          refine zz_gol (wr := []) [] [] rfl rfl (by decide) (by decide) hA hP hD hS (zz_runS (wc := []) (As := [.int (nI n)]) (rest := []) C (c_Sp_ringSteps l E n hn) ym_Sp_ringSteps wd_ml_Sp_100 wd_st_Sp_ringSteps [] (by decide) rfl hA hK hst hP hD hS rfl hl.1 rfl (Nat.le_of_ble_eq_true rfl) ⟨Nat.le_of_ble_eq_true rfl, Nat.le_of_ble_eq_true rfl⟩ ⟨Nat.le_of_ble_eq_true rfl, Nat.le_of_ble_eq_true rfl⟩ d_Sp_ring_30) (fun r_29 u H locs hw hP hD hS => ?_)
          have hP : va_P E.1 vwCl [] H := hP
          have hD : va_D A [] := hD
          subst hw
          refine lv_lload_n hx hb d_Sp_ring_33 rfl (lv_at hl 2 rfl) ?_
          refine lv_lsub hx hb d_Sp_ring_34 ?_
          refine zz_eql (y := lN (rg n - k)) (lN_sub hle) ?_
          refine lv_lstore (lv' := [(4, .long (lN (rg n - k))), (0, .ref o), (1, .int (nI n)), (2, .long (lN k))]) hx hb d_Sp_ring_35 hl (by decide) rfl (fun ls hl => ?_)
          refine lv_lload hx hb d_Sp_ring_37 (lv_at hl 0 rfl) ?_
          refine lv_lload hx hb d_Sp_ring_39 (lv_at hl 0 rfl) ?_
          refine lv_iconst (v := 1) hx hb d_Sp_ring_41 (by decide) ?_
          refine lv_lshr (v := (lN (rg n - k)) >>> ((1 : Int32).toInt64 &&& 63)) hx hb d_Sp_ring_42 (rfl) ?_
          refine lv_lxor hx hb d_Sp_ring_43 ?_
          refine zz_eql (y := lN ((rg n - k) ^^^ ((rg n - k) / 2))) (rg_gray (by omega)) ?_
          exact zz_retl C hS () (by rw [if_pos hle]) hP hD d_Sp_ring_44
        · have hgt : ¬ k ≤ rg n := fun z => c_28 ((lg_cmp_le _ _).mpr ((pk_lLE hk (by omega)).mpr z))
          refine lv_ldc2 (v := (-1)) hx hb hown (hts _ wk_Sp_94) d_Sp_ring_25 ?_
          exact zz_retl C hS () (by rw [if_neg hgt]) hP hD d_Sp_ring_28

set_option maxHeartbeats 4000000 in
set_option maxRecDepth 100000 in
theorem c_Sp_unit (l : Launch) (E : zG) (o o1 o2 o4 o5 o6 : Nat) (h0 d1 k : Nat) (fU : Nat → Int32) (x : Int32) (hk : k ≤ 100) : zMet l y_Sp_unit b_Sp_unit 2 (some .boolean) 1 21 0 0 E [.ref o, .int x] [(o, .inr (6, [.ref o1, .ref o2, .ref h0, .ref o4, .ref o5, .ref o6])), (h0, .inr (3, [.ref d1, .int (nI k)])), (d1, zI E 100 fU)] (zQi E (S := (Nat → Int32) × Nat) (fun r u => ((¬ x < 0 ∧ ¬ 255 < x ∧ nI k < 100) → r = 1 ∧ u = (upd fU k x, k + 1)) ∧ (¬ (¬ x < 0 ∧ ¬ 255 < x ∧ nI k < 100) → r = 0 ∧ u = (fU, k))) (fun u => [(o, .inr (6, [.ref o1, .ref o2, .ref h0, .ref o4, .ref o5, .ref o6])), (h0, .inr (3, [.ref d1, .int (nI u.2)])), (d1, zI E 100 u.1)])) := by
  refine zz_met (by decide +kernel) (Nat.le_of_ble_eq_true rfl) ?_
  intro p e s m below meth c A ls C hin hA hK hst hP hD hl
  obtain ⟨hx, hb, hr, hml, hown, hts, hlk⟩ := id C
  have hS : va_S A s.heap s.heap [] := va_S.rf
  have hl : lv_has ls 2 [(0, .ref o), (1, .int x)] := hl
  refine lv_aload_n hx hb d_Sp_unit_0 rfl (lv_at hl 0 rfl) ?_
  refine zz_get C hK hP fl_Sp_26 0 rfl rfl d_Sp_unit_1 ?_
  refine lv_iload_n hx hb d_Sp_unit_4 rfl (lv_at hl 1 rfl) ?_
  refine zz_goi (wr := [(o, .inr (6, [.ref o1, .ref o2, .ref h0, .ref o4, .ref o5, .ref o6]))]) [1, 2] [0] rfl rfl (by decide) (by decide) hA hP hD hS (zz_runV (wc := [(h0, .inr (3, [.ref d1, .int (nI k)])), (d1, zI E 100 fU)]) (As := [.int x]) (rest := []) C (c_Rt_add l E h0 d1 k fU x hk) ym_Rt_add wd_ml_Sp_66 wd_im_Rt_add wd_se_Rt_add [1, 2] (by decide) rfl hA hK hst hP hD hS (ci := 3) (q0 := 0) rfl rfl rfl rfl hl.1 rfl (Nat.le_of_ble_eq_true rfl) ⟨Nat.le_of_ble_eq_true rfl, Nat.le_of_ble_eq_true rfl⟩ ⟨Nat.le_of_ble_eq_true rfl, Nat.le_of_ble_eq_true rfl⟩ d_Sp_unit_5) (fun r1 u H locs hw hP hD hS => ?_)
  have hP : va_P E.1 vwCl [(o, .inr (6, [.ref o1, .ref o2, .ref h0, .ref o4, .ref o5, .ref o6])), (h0, .inr (3, [.ref d1, .int (nI u.2)])), (d1, zI E 100 u.1)] H := hP
  have hD : va_D A [(o, .inr (6, [.ref o1, .ref o2, .ref h0, .ref o4, .ref o5, .ref o6])), (h0, .inr (3, [.ref d1, .int (nI u.2)])), (d1, zI E 100 u.1)] := hD
  exact zz_reti C (zz_bool (hw.1) (hw.2)) hS u (hw) hP hD d_Sp_unit_8

set_option maxHeartbeats 4000000 in
set_option maxRecDepth 100000 in
theorem c_Sp_jug (l : Launch) (E : zG) (o o2 o3 o4 o6 : Nat) (f0 q1 q2 nf : Nat) (f1 f2 : Nat → Int32) (cn : Int32) (h0 b1 b2 b3 b4 jc : Nat) (fS fF fW fV : Nat → Int32) (x y : Int32) (hc : jc ≤ 4) : zMet l y_Sp_jug b_Sp_jug 3 (some .int) 1 22 0 0 E [.ref o, .int x, .int y] [(o, .inr (6, [.ref h0, .ref o2, .ref o3, .ref o4, .ref f0, .ref o6])), (f0, .inr (0, [.ref q1, .ref q2, .int cn])), (q1, zI E nf f1), (q2, zI E nf f2), (h0, .inr (1, [.ref b1, .ref b2, .ref b3, .ref b4, .int (nI jc)])), (b1, zI E 4 fS), (b2, zI E 4 fF), (b3, zI E 4 fW), (b4, zI E 4 fV)] (zQi E (S := (Nat → Int32) × (Nat → Int32) × (Nat → Int32) × Nat) (fun r u => (¬ 4 ≤ nI jc ∧ ¬ x < 1 ∧ ¬ 9 < x ∧ ¬ y < 0 ∧ y ≤ x → r = nI jc ∧ u = (upd fS jc x, upd fF jc y, upd fW jc (-1), jc + 1)) ∧ (¬ (¬ 4 ≤ nI jc ∧ ¬ x < 1 ∧ ¬ 9 < x ∧ ¬ y < 0 ∧ y ≤ x) → r = -1 ∧ u = (fS, fF, fW, jc))) (fun u => [(o, .inr (6, [.ref h0, .ref o2, .ref o3, .ref o4, .ref f0, .ref o6])), (f0, .inr (0, [.ref q1, .ref q2, .int 0])), (q1, zI E nf f1), (q2, zI E nf f2), (h0, .inr (1, [.ref b1, .ref b2, .ref b3, .ref b4, .int (nI u.2.2.2)])), (b1, zI E 4 u.1), (b2, zI E 4 u.2.1), (b3, zI E 4 u.2.2.1), (b4, zI E 4 fV)])) := by
  refine zz_met (by decide +kernel) (Nat.le_of_ble_eq_true rfl) ?_
  intro p e s m below meth c A ls C hin hA hK hst hP hD hl
  obtain ⟨hx, hb, hr, hml, hown, hts, hlk⟩ := id C
  have hS : va_S A s.heap s.heap [] := va_S.rf
  have hl : lv_has ls 3 [(0, .ref o), (1, .int x), (2, .int y)] := hl
  refine lv_aload_n hx hb d_Sp_jug_0 rfl (lv_at hl 0 rfl) ?_
  refine zz_get C hK hP fl_Sp_40 0 rfl rfl d_Sp_jug_1 ?_
  refine zz_gov (wr := [(o, .inr (6, [.ref h0, .ref o2, .ref o3, .ref o4, .ref f0, .ref o6])), (h0, .inr (1, [.ref b1, .ref b2, .ref b3, .ref b4, .int (nI jc)])), (b1, zI E 4 fS), (b2, zI E 4 fF), (b3, zI E 4 fW), (b4, zI E 4 fV)]) [1, 2, 3] [0, 4, 5, 6, 7, 8] rfl rfl (by decide) (by decide) hA hP hD hS (zz_runV (wc := [(f0, .inr (0, [.ref q1, .ref q2, .int cn])), (q1, zI E nf f1), (q2, zI E nf f2)]) (As := []) (rest := []) C (c_Fs_forget l E f0 q1 q2 nf nf f1 f2 cn) ym_Fs_forget wd_ml_Sp_51 wd_im_Fs_forget wd_se_Fs_forget [1, 2, 3] (by decide) rfl hA hK hst hP hD hS (ci := 0) (q0 := 0) rfl rfl rfl rfl hl.1 rfl (Nat.le_of_ble_eq_true rfl) ⟨Nat.le_of_ble_eq_true rfl, Nat.le_of_ble_eq_true rfl⟩ ⟨Nat.le_of_ble_eq_true rfl, Nat.le_of_ble_eq_true rfl⟩ d_Sp_jug_4) (fun u H locs _ hP hD hS => ?_)
  have hP : va_P E.1 vwCl [(o, .inr (6, [.ref h0, .ref o2, .ref o3, .ref o4, .ref f0, .ref o6])), (h0, .inr (1, [.ref b1, .ref b2, .ref b3, .ref b4, .int (nI jc)])), (b1, zI E 4 fS), (b2, zI E 4 fF), (b3, zI E 4 fW), (b4, zI E 4 fV), (f0, .inr (0, [.ref q1, .ref q2, .int 0])), (q1, zI E nf f1), (q2, zI E nf f2)] H := hP
  have hD : va_D A [(o, .inr (6, [.ref h0, .ref o2, .ref o3, .ref o4, .ref f0, .ref o6])), (h0, .inr (1, [.ref b1, .ref b2, .ref b3, .ref b4, .int (nI jc)])), (b1, zI E 4 fS), (b2, zI E 4 fF), (b3, zI E 4 fW), (b4, zI E 4 fV), (f0, .inr (0, [.ref q1, .ref q2, .int 0])), (q1, zI E nf f1), (q2, zI E nf f2)] := hD
  refine lv_aload_n hx hb d_Sp_jug_7 rfl (lv_at hl 0 rfl) ?_
  refine zz_get C hK hP fl_Sp_10 0 rfl rfl d_Sp_jug_8 ?_
  refine lv_iload_n hx hb d_Sp_jug_11 rfl (lv_at hl 1 rfl) ?_
  refine lv_iload_n hx hb d_Sp_jug_12 rfl (lv_at hl 2 rfl) ?_
  refine zz_goi (wr := [(o, .inr (6, [.ref h0, .ref o2, .ref o3, .ref o4, .ref f0, .ref o6])), (f0, .inr (0, [.ref q1, .ref q2, .int 0])), (q1, zI E nf f1), (q2, zI E nf f2)]) [1, 2, 3, 4, 5] [0, 6, 7, 8] rfl rfl (by decide) (by decide) hA hP hD hS (zz_runV (wc := [(h0, .inr (1, [.ref b1, .ref b2, .ref b3, .ref b4, .int (nI jc)])), (b1, zI E 4 fS), (b2, zI E 4 fF), (b3, zI E 4 fW), (b4, zI E 4 fV)]) (As := [.int x, .int y]) (rest := []) C (c_Js_add l E h0 b1 b2 b3 b4 jc fS fF fW fV x y hc) ym_Js_add wd_ml_Sp_54 wd_im_Js_add wd_se_Js_add [1, 2, 3, 4, 5] (by decide) rfl hA hK hst hP hD hS (ci := 1) (q0 := 0) rfl rfl rfl rfl hl.1 rfl (Nat.le_of_ble_eq_true rfl) ⟨Nat.le_of_ble_eq_true rfl, Nat.le_of_ble_eq_true rfl⟩ ⟨Nat.le_of_ble_eq_true rfl, Nat.le_of_ble_eq_true rfl⟩ d_Sp_jug_13) (fun r1 u H locs hw hP hD hS => ?_)
  have hP : va_P E.1 vwCl [(o, .inr (6, [.ref h0, .ref o2, .ref o3, .ref o4, .ref f0, .ref o6])), (f0, .inr (0, [.ref q1, .ref q2, .int 0])), (q1, zI E nf f1), (q2, zI E nf f2), (h0, .inr (1, [.ref b1, .ref b2, .ref b3, .ref b4, .int (nI u.2.2.2)])), (b1, zI E 4 u.1), (b2, zI E 4 u.2.1), (b3, zI E 4 u.2.2.1), (b4, zI E 4 fV)] H := hP
  have hD : va_D A [(o, .inr (6, [.ref h0, .ref o2, .ref o3, .ref o4, .ref f0, .ref o6])), (f0, .inr (0, [.ref q1, .ref q2, .int 0])), (q1, zI E nf f1), (q2, zI E nf f2), (h0, .inr (1, [.ref b1, .ref b2, .ref b3, .ref b4, .int (nI u.2.2.2)])), (b1, zI E 4 u.1), (b2, zI E 4 u.2.1), (b3, zI E 4 u.2.2.1), (b4, zI E 4 fV)] := hD
  exact zz_reti C (rfl) hS u (hw) hP hD d_Sp_jug_16

set_option maxHeartbeats 4000000 in
set_option maxRecDepth 100000 in
theorem c_Sp_goal (l : Launch) (E : zG) (o o2 o3 o4 o6 : Nat) (f0 q1 q2 nf : Nat) (f1 f2 : Nat → Int32) (cn : Int32) (h0 b1 b2 b3 b4 jc : Nat) (fS fF fW fV : Nat → Int32) (k v : Int32) (hc : jc ≤ 4) : zMet l y_Sp_goal b_Sp_goal 3 (some .boolean) 1 22 0 0 E [.ref o, .int k, .int v] [(o, .inr (6, [.ref h0, .ref o2, .ref o3, .ref o4, .ref f0, .ref o6])), (f0, .inr (0, [.ref q1, .ref q2, .int cn])), (q1, zI E nf f1), (q2, zI E nf f2), (h0, .inr (1, [.ref b1, .ref b2, .ref b3, .ref b4, .int (nI jc)])), (b1, zI E 4 fS), (b2, zI E 4 fF), (b3, zI E 4 fW), (b4, zI E 4 fV)] (zQi E (S := Nat → Int32) (fun r u => (¬ k < 0 ∧ ¬ nI jc ≤ k ∧ ¬ v < (-1) ∧ v ≤ fS k.toNatClampNeg → r = 1 ∧ u = upd fW k.toNatClampNeg v) ∧ (¬ (¬ k < 0 ∧ ¬ nI jc ≤ k ∧ ¬ v < (-1) ∧ v ≤ fS k.toNatClampNeg) → r = 0 ∧ u = fW)) (fun u => [(o, .inr (6, [.ref h0, .ref o2, .ref o3, .ref o4, .ref f0, .ref o6])), (f0, .inr (0, [.ref q1, .ref q2, .int 0])), (q1, zI E nf f1), (q2, zI E nf f2), (h0, .inr (1, [.ref b1, .ref b2, .ref b3, .ref b4, .int (nI jc)])), (b1, zI E 4 fS), (b2, zI E 4 fF), (b3, zI E 4 u), (b4, zI E 4 fV)])) := by
  refine zz_met (by decide +kernel) (Nat.le_of_ble_eq_true rfl) ?_
  intro p e s m below meth c A ls C hin hA hK hst hP hD hl
  obtain ⟨hx, hb, hr, hml, hown, hts, hlk⟩ := id C
  have hS : va_S A s.heap s.heap [] := va_S.rf
  have hl : lv_has ls 3 [(0, .ref o), (1, .int k), (2, .int v)] := hl
  refine lv_aload_n hx hb d_Sp_goal_0 rfl (lv_at hl 0 rfl) ?_
  refine zz_get C hK hP fl_Sp_40 0 rfl rfl d_Sp_goal_1 ?_
  refine zz_gov (wr := [(o, .inr (6, [.ref h0, .ref o2, .ref o3, .ref o4, .ref f0, .ref o6])), (h0, .inr (1, [.ref b1, .ref b2, .ref b3, .ref b4, .int (nI jc)])), (b1, zI E 4 fS), (b2, zI E 4 fF), (b3, zI E 4 fW), (b4, zI E 4 fV)]) [1, 2, 3] [0, 4, 5, 6, 7, 8] rfl rfl (by decide) (by decide) hA hP hD hS (zz_runV (wc := [(f0, .inr (0, [.ref q1, .ref q2, .int cn])), (q1, zI E nf f1), (q2, zI E nf f2)]) (As := []) (rest := []) C (c_Fs_forget l E f0 q1 q2 nf nf f1 f2 cn) ym_Fs_forget wd_ml_Sp_51 wd_im_Fs_forget wd_se_Fs_forget [1, 2, 3] (by decide) rfl hA hK hst hP hD hS (ci := 0) (q0 := 0) rfl rfl rfl rfl hl.1 rfl (Nat.le_of_ble_eq_true rfl) ⟨Nat.le_of_ble_eq_true rfl, Nat.le_of_ble_eq_true rfl⟩ ⟨Nat.le_of_ble_eq_true rfl, Nat.le_of_ble_eq_true rfl⟩ d_Sp_goal_4) (fun u H locs _ hP hD hS => ?_)
  have hP : va_P E.1 vwCl [(o, .inr (6, [.ref h0, .ref o2, .ref o3, .ref o4, .ref f0, .ref o6])), (h0, .inr (1, [.ref b1, .ref b2, .ref b3, .ref b4, .int (nI jc)])), (b1, zI E 4 fS), (b2, zI E 4 fF), (b3, zI E 4 fW), (b4, zI E 4 fV), (f0, .inr (0, [.ref q1, .ref q2, .int 0])), (q1, zI E nf f1), (q2, zI E nf f2)] H := hP
  have hD : va_D A [(o, .inr (6, [.ref h0, .ref o2, .ref o3, .ref o4, .ref f0, .ref o6])), (h0, .inr (1, [.ref b1, .ref b2, .ref b3, .ref b4, .int (nI jc)])), (b1, zI E 4 fS), (b2, zI E 4 fF), (b3, zI E 4 fW), (b4, zI E 4 fV), (f0, .inr (0, [.ref q1, .ref q2, .int 0])), (q1, zI E nf f1), (q2, zI E nf f2)] := hD
  refine lv_aload_n hx hb d_Sp_goal_7 rfl (lv_at hl 0 rfl) ?_
  refine zz_get C hK hP fl_Sp_10 0 rfl rfl d_Sp_goal_8 ?_
  refine lv_iload_n hx hb d_Sp_goal_11 rfl (lv_at hl 1 rfl) ?_
  refine lv_iload_n hx hb d_Sp_goal_12 rfl (lv_at hl 2 rfl) ?_
  refine zz_goi (wr := [(o, .inr (6, [.ref h0, .ref o2, .ref o3, .ref o4, .ref f0, .ref o6])), (f0, .inr (0, [.ref q1, .ref q2, .int 0])), (q1, zI E nf f1), (q2, zI E nf f2)]) [1, 2, 3, 4, 5] [0, 6, 7, 8] rfl rfl (by decide) (by decide) hA hP hD hS (zz_runV (wc := [(h0, .inr (1, [.ref b1, .ref b2, .ref b3, .ref b4, .int (nI jc)])), (b1, zI E 4 fS), (b2, zI E 4 fF), (b3, zI E 4 fW), (b4, zI E 4 fV)]) (As := [.int k, .int v]) (rest := []) C (c_Js_want l E h0 b1 b2 b3 b4 jc fS fF fW fV k v hc) ym_Js_want wd_ml_Sp_58 wd_im_Js_want wd_se_Js_want [1, 2, 3, 4, 5] (by decide) rfl hA hK hst hP hD hS (ci := 1) (q0 := 0) rfl rfl rfl rfl hl.1 rfl (Nat.le_of_ble_eq_true rfl) ⟨Nat.le_of_ble_eq_true rfl, Nat.le_of_ble_eq_true rfl⟩ ⟨Nat.le_of_ble_eq_true rfl, Nat.le_of_ble_eq_true rfl⟩ d_Sp_goal_13) (fun r1 u H locs hw hP hD hS => ?_)
  have hP : va_P E.1 vwCl [(o, .inr (6, [.ref h0, .ref o2, .ref o3, .ref o4, .ref f0, .ref o6])), (f0, .inr (0, [.ref q1, .ref q2, .int 0])), (q1, zI E nf f1), (q2, zI E nf f2), (h0, .inr (1, [.ref b1, .ref b2, .ref b3, .ref b4, .int (nI jc)])), (b1, zI E 4 fS), (b2, zI E 4 fF), (b3, zI E 4 u), (b4, zI E 4 fV)] H := hP
  have hD : va_D A [(o, .inr (6, [.ref h0, .ref o2, .ref o3, .ref o4, .ref f0, .ref o6])), (f0, .inr (0, [.ref q1, .ref q2, .int 0])), (q1, zI E nf f1), (q2, zI E nf f2), (h0, .inr (1, [.ref b1, .ref b2, .ref b3, .ref b4, .int (nI jc)])), (b1, zI E 4 fS), (b2, zI E 4 fF), (b3, zI E 4 u), (b4, zI E 4 fV)] := hD
  exact zz_reti C (zz_bool (hw.1) (hw.2)) hS u (hw) hP hD d_Sp_goal_16

set_option maxHeartbeats 4000000 in
set_option maxRecDepth 100000 in
theorem c_Sp_step (l : Launch) (E : zG) (o o1 o2 o3 o4 o6 : Nat) (f0 q1 q2 nf : Nat) (f1 f2 : Nat → Int32) (cn : Int32) (k b0 : Int32) (hnf : nf < 2 ^ 31) : zMet l y_Sp_step b_Sp_step 3 (some .int) 2 42 0 0 E [.ref o, .int k, .int b0] [(o, .inr (6, [.ref o1, .ref o2, .ref o3, .ref o4, .ref f0, .ref o6])), (f0, .inr (0, [.ref q1, .ref q2, .int cn])), (q1, zI E nf f1), (q2, zI E nf f2)] (zQi E (S := Unit) (fun r _ => r = if b0 = 0 then (if ¬ k < 0 ∧ ¬ cn ≤ k ∧ ¬ nI nf ≤ k ∧ ¬ nI nf ≤ k then f1 k.toNatClampNeg else (-2)) else (if ¬ k < 0 ∧ ¬ cn ≤ k ∧ ¬ nI nf ≤ k ∧ ¬ nI nf ≤ k then f2 k.toNatClampNeg else (-2))) (fun _ => [(o, .inr (6, [.ref o1, .ref o2, .ref o3, .ref o4, .ref f0, .ref o6])), (f0, .inr (0, [.ref q1, .ref q2, .int cn])), (q1, zI E nf f1), (q2, zI E nf f2)])) := by
  refine zz_met (by decide +kernel) (Nat.le_of_ble_eq_true rfl) ?_
  intro p e s m below meth c A ls C hin hA hK hst hP hD hl
  obtain ⟨hx, hb, hr, hml, hown, hts, hlk⟩ := id C
  have hS : va_S A s.heap s.heap [] := va_S.rf
  have hl : lv_has ls 3 [(0, .ref o), (1, .int k), (2, .int b0)] := hl
  refine lv_iload_n hx hb d_Sp_step_0 rfl (lv_at hl 2 rfl) ?_
  refine lv_if_eq (tgt := 15) hx hb d_Sp_step_1 (by decide) (fun c_32 => ?_) (fun c_32 => ?_)
  · refine lv_aload_n hx hb d_Sp_step_15 rfl (lv_at hl 0 rfl) ?_
    refine zz_get C hK hP fl_Sp_40 0 rfl rfl d_Sp_step_16 ?_
    refine lv_iload_n hx hb d_Sp_step_19 rfl (lv_at hl 1 rfl) ?_
    refine zz_goi (wr := [(o, .inr (6, [.ref o1, .ref o2, .ref o3, .ref o4, .ref f0, .ref o6]))]) [1, 2, 3] [0] rfl rfl (by decide) (by decide) hA hP hD hS (zz_runV (wc := [(f0, .inr (0, [.ref q1, .ref q2, .int cn])), (q1, zI E nf f1), (q2, zI E nf f2)]) (As := [.int k]) (rest := []) C (c_Fs_first l E f0 q1 q2 nf nf f1 f2 cn k hnf hnf) ym_Fs_first wd_ml_Sp_78 wd_im_Fs_first wd_se_Fs_first [1, 2, 3] (by decide) rfl hA hK hst hP hD hS (ci := 0) (q0 := 0) rfl rfl rfl rfl hl.1 rfl (Nat.le_of_ble_eq_true rfl) ⟨Nat.le_of_ble_eq_true rfl, Nat.le_of_ble_eq_true rfl⟩ ⟨Nat.le_of_ble_eq_true rfl, Nat.le_of_ble_eq_true rfl⟩ d_Sp_step_20) (fun r_33 u H locs hw hP hD hS => ?_)
    have hP : va_P E.1 vwCl [(o, .inr (6, [.ref o1, .ref o2, .ref o3, .ref o4, .ref f0, .ref o6])), (f0, .inr (0, [.ref q1, .ref q2, .int cn])), (q1, zI E nf f1), (q2, zI E nf f2)] H := hP
    have hD : va_D A [(o, .inr (6, [.ref o1, .ref o2, .ref o3, .ref o4, .ref f0, .ref o6])), (f0, .inr (0, [.ref q1, .ref q2, .int cn])), (q1, zI E nf f1), (q2, zI E nf f2)] := hD
    exact zz_reti C (rfl) hS () (by rw [if_pos c_32]; exact hw) hP hD d_Sp_step_23
  · refine lv_aload_n hx hb d_Sp_step_4 rfl (lv_at hl 0 rfl) ?_
    refine zz_get C hK hP fl_Sp_40 0 rfl rfl d_Sp_step_5 ?_
    refine lv_iload_n hx hb d_Sp_step_8 rfl (lv_at hl 1 rfl) ?_
    refine zz_goi (wr := [(o, .inr (6, [.ref o1, .ref o2, .ref o3, .ref o4, .ref f0, .ref o6]))]) [1, 2, 3] [0] rfl rfl (by decide) (by decide) hA hP hD hS (zz_runV (wc := [(f0, .inr (0, [.ref q1, .ref q2, .int cn])), (q1, zI E nf f1), (q2, zI E nf f2)]) (As := [.int k]) (rest := []) C (c_Fs_second l E f0 q1 q2 nf nf f1 f2 cn k hnf hnf) ym_Fs_second wd_ml_Sp_74 wd_im_Fs_second wd_se_Fs_second [1, 2, 3] (by decide) rfl hA hK hst hP hD hS (ci := 0) (q0 := 0) rfl rfl rfl rfl hl.1 rfl (Nat.le_of_ble_eq_true rfl) ⟨Nat.le_of_ble_eq_true rfl, Nat.le_of_ble_eq_true rfl⟩ ⟨Nat.le_of_ble_eq_true rfl, Nat.le_of_ble_eq_true rfl⟩ d_Sp_step_9) (fun r_34 u H locs hw hP hD hS => ?_)
    have hP : va_P E.1 vwCl [(o, .inr (6, [.ref o1, .ref o2, .ref o3, .ref o4, .ref f0, .ref o6])), (f0, .inr (0, [.ref q1, .ref q2, .int cn])), (q1, zI E nf f1), (q2, zI E nf f2)] H := hP
    have hD : va_D A [(o, .inr (6, [.ref o1, .ref o2, .ref o3, .ref o4, .ref f0, .ref o6])), (f0, .inr (0, [.ref q1, .ref q2, .int cn])), (q1, zI E nf f1), (q2, zI E nf f2)] := hD
    refine lv_goto (tgt := 23) hx hb d_Sp_step_12 (by decide) ?_
    exact zz_reti C (rfl) hS () (by rw [if_neg c_32]; exact hw) hP hD d_Sp_step_23

set_option maxHeartbeats 4000000 in
set_option maxRecDepth 100000 in
theorem c_Sp_tower_bad (l : Launch) (E : zG) (o o1 o2 o3 o4 o5 : Nat) (h0 e1 e2 pg ds : Nat) (f4 : Nat → Int64) (fo : Nat → Int32) (x y : Int32) (hb0 : ¬ (¬ x < 3 ∧ ¬ 4 < x ∧ ¬ y < 0 ∧ y ≤ 40)) : zMet l y_Sp_tower b_Sp_tower 3 (some .long) 2 40 0 0 E [.ref o, .int x, .int y] [(o, .inr (6, [.ref o1, .ref o2, .ref o3, .ref o4, .ref o5, .ref h0])), (h0, .inr (5, [.ref e1, .ref e2, .int (nI pg), .int (nI ds)])), (e1, zL E 41 f4), (e2, zI E 41 fo)] (zQl E (S := Unit) (fun r _ => r = -1) (fun _ => [(o, .inr (6, [.ref o1, .ref o2, .ref o3, .ref o4, .ref o5, .ref h0])), (h0, .inr (5, [.ref e1, .ref e2, .int (nI pg), .int (nI ds)])), (e1, zL E 41 f4), (e2, zI E 41 fo)])) := by
  refine zz_met (by decide +kernel) (Nat.le_of_ble_eq_true rfl) ?_
  intro p e s m below meth c A ls C hin hA hK hst hP hD hl
  obtain ⟨hx, hb, hr, hml, hown, hts, hlk⟩ := id C
  have hS : va_S A s.heap s.heap [] := va_S.rf
  have hl : lv_has ls 3 [(0, .ref o), (1, .int x), (2, .int y)] := hl
  refine lv_aload_n hx hb d_Sp_tower_0 rfl (lv_at hl 0 rfl) ?_
  refine zz_get C hK hP fl_Sp_47 0 rfl rfl d_Sp_tower_1 ?_
  refine lv_iload_n hx hb d_Sp_tower_4 rfl (lv_at hl 1 rfl) ?_
  refine lv_iload_n hx hb d_Sp_tower_5 rfl (lv_at hl 2 rfl) ?_
  refine zz_goi (wr := [(o, .inr (6, [.ref o1, .ref o2, .ref o3, .ref o4, .ref o5, .ref h0]))]) [1, 2, 3] [0] rfl rfl (by decide) (by decide) hA hP hD hS (zz_runV (wc := [(h0, .inr (5, [.ref e1, .ref e2, .int (nI pg), .int (nI ds)])), (e1, zL E 41 f4), (e2, zI E 41 fo)]) (As := [.int x, .int y]) (rest := []) C (c_Tw_set l E h0 e1 e2 f4 fo (nI pg) (nI ds) x y) ym_Tw_set wd_ml_Sp_87 wd_im_Tw_set wd_se_Tw_set [1, 2, 3] (by decide) rfl hA hK hst hP hD hS (ci := 5) (q0 := 0) rfl rfl rfl rfl hl.1 rfl (Nat.le_of_ble_eq_true rfl) ⟨Nat.le_of_ble_eq_true rfl, Nat.le_of_ble_eq_true rfl⟩ ⟨Nat.le_of_ble_eq_true rfl, Nat.le_of_ble_eq_true rfl⟩ d_Sp_tower_6) (fun r1 u H locs hw hP hD hS => ?_)
  have hP : va_P E.1 vwCl [(o, .inr (6, [.ref o1, .ref o2, .ref o3, .ref o4, .ref o5, .ref h0])), (h0, .inr (5, [.ref e1, .ref e2, .int u.1, .int u.2])), (e1, zL E 41 f4), (e2, zI E 41 fo)] H := hP
  have hD : va_D A [(o, .inr (6, [.ref o1, .ref o2, .ref o3, .ref o4, .ref o5, .ref h0])), (h0, .inr (5, [.ref e1, .ref e2, .int u.1, .int u.2])), (e1, zL E 41 f4), (e2, zI E 41 fo)] := hD
  obtain ⟨h1, hu⟩ := hw.2 hb0
  subst hu
  have hP : va_P E.1 vwCl [(o, .inr (6, [.ref o1, .ref o2, .ref o3, .ref o4, .ref o5, .ref h0])), (h0, .inr (5, [.ref e1, .ref e2, .int (nI pg), .int (nI ds)])), (e1, zL E 41 f4), (e2, zI E 41 fo)] H := hP
  have hD : va_D A [(o, .inr (6, [.ref o1, .ref o2, .ref o3, .ref o4, .ref o5, .ref h0])), (h0, .inr (5, [.ref e1, .ref e2, .int (nI pg), .int (nI ds)])), (e1, zL E 41 f4), (e2, zI E 41 fo)] := hD
  refine lv_if_eq (tgt := 22) hx hb d_Sp_tower_9 (by decide) (fun c_35 => ?_) (fun c_35 => ?_)
  · refine lv_ldc2 (v := (-1)) hx hb hown (hts _ wk_Sp_94) d_Sp_tower_22 ?_
    exact zz_retl C hS () (rfl) hP hD d_Sp_tower_25
  · exact absurd h1 c_35

set_option maxHeartbeats 4000000 in
set_option maxRecDepth 100000 in
theorem c_Sp_tower_ok (l : Launch) (E : zG) (o o1 o2 o3 o4 o5 : Nat) (h0 e1 e2 pg ds : Nat) (f4 : Nat → Int64) (fo : Nat → Int32) (p2 d2 : Nat) (hp : p2 = 3 ∨ p2 = 4) (hd : d2 ≤ 40) (hT : ∀ j, j < 41 → f4 j = lN (tw_F j) ∧ fo j = nI (tw_K j)) : zMet l y_Sp_tower b_Sp_tower 3 (some .long) 2 40 0 0 E [.ref o, .int (nI p2), .int (nI d2)] [(o, .inr (6, [.ref o1, .ref o2, .ref o3, .ref o4, .ref o5, .ref h0])), (h0, .inr (5, [.ref e1, .ref e2, .int (nI pg), .int (nI ds)])), (e1, zL E 41 f4), (e2, zI E 41 fo)] (zQl E (S := Unit) (fun r _ => r = lN (tw_M p2 d2)) (fun _ => [(o, .inr (6, [.ref o1, .ref o2, .ref o3, .ref o4, .ref o5, .ref h0])), (h0, .inr (5, [.ref e1, .ref e2, .int (nI p2), .int (nI d2)])), (e1, zL E 41 f4), (e2, zI E 41 fo)])) := by
  refine zz_met (by decide +kernel) (Nat.le_of_ble_eq_true rfl) ?_
  intro p e s m below meth c A ls C hin hA hK hst hP hD hl
  obtain ⟨hx, hb, hr, hml, hown, hts, hlk⟩ := id C
  have hS : va_S A s.heap s.heap [] := va_S.rf
  have hl : lv_has ls 3 [(0, .ref o), (1, .int (nI p2)), (2, .int (nI d2))] := hl
  have hok : ¬ nI p2 < 3 ∧ ¬ 4 < nI p2 ∧ ¬ nI d2 < 0 ∧ nI d2 ≤ 40 := ⟨(by rcases hp with rfl | rfl <;> decide), (by rcases hp with rfl | rfl <;> decide), nI_pos (by omega), nI_le (b := 40) hd (by decide)⟩
  refine lv_aload_n hx hb d_Sp_tower_0 rfl (lv_at hl 0 rfl) ?_
  refine zz_get C hK hP fl_Sp_47 0 rfl rfl d_Sp_tower_1 ?_
  refine lv_iload_n hx hb d_Sp_tower_4 rfl (lv_at hl 1 rfl) ?_
  refine lv_iload_n hx hb d_Sp_tower_5 rfl (lv_at hl 2 rfl) ?_
  refine zz_goi (wr := [(o, .inr (6, [.ref o1, .ref o2, .ref o3, .ref o4, .ref o5, .ref h0]))]) [1, 2, 3] [0] rfl rfl (by decide) (by decide) hA hP hD hS (zz_runV (wc := [(h0, .inr (5, [.ref e1, .ref e2, .int (nI pg), .int (nI ds)])), (e1, zL E 41 f4), (e2, zI E 41 fo)]) (As := [.int (nI p2), .int (nI d2)]) (rest := []) C (c_Tw_set l E h0 e1 e2 f4 fo (nI pg) (nI ds) (nI p2) (nI d2)) ym_Tw_set wd_ml_Sp_87 wd_im_Tw_set wd_se_Tw_set [1, 2, 3] (by decide) rfl hA hK hst hP hD hS (ci := 5) (q0 := 0) rfl rfl rfl rfl hl.1 rfl (Nat.le_of_ble_eq_true rfl) ⟨Nat.le_of_ble_eq_true rfl, Nat.le_of_ble_eq_true rfl⟩ ⟨Nat.le_of_ble_eq_true rfl, Nat.le_of_ble_eq_true rfl⟩ d_Sp_tower_6) (fun r1 u H locs hw hP hD hS => ?_)
  have hP : va_P E.1 vwCl [(o, .inr (6, [.ref o1, .ref o2, .ref o3, .ref o4, .ref o5, .ref h0])), (h0, .inr (5, [.ref e1, .ref e2, .int u.1, .int u.2])), (e1, zL E 41 f4), (e2, zI E 41 fo)] H := hP
  have hD : va_D A [(o, .inr (6, [.ref o1, .ref o2, .ref o3, .ref o4, .ref o5, .ref h0])), (h0, .inr (5, [.ref e1, .ref e2, .int u.1, .int u.2])), (e1, zL E 41 f4), (e2, zI E 41 fo)] := hD
  obtain ⟨h1, hu⟩ := hw.1 hok
  subst hu
  have hP : va_P E.1 vwCl [(o, .inr (6, [.ref o1, .ref o2, .ref o3, .ref o4, .ref o5, .ref h0])), (h0, .inr (5, [.ref e1, .ref e2, .int (nI p2), .int (nI d2)])), (e1, zL E 41 f4), (e2, zI E 41 fo)] H := hP
  have hD : va_D A [(o, .inr (6, [.ref o1, .ref o2, .ref o3, .ref o4, .ref o5, .ref h0])), (h0, .inr (5, [.ref e1, .ref e2, .int (nI p2), .int (nI d2)])), (e1, zL E 41 f4), (e2, zI E 41 fo)] := hD
  refine lv_if_eq (tgt := 22) hx hb d_Sp_tower_9 (by decide) (fun c_36 => ?_) (fun c_36 => ?_)
  · exact absurd (h1.symm.trans c_36) (by decide)
  · refine lv_aload_n hx hb d_Sp_tower_12 rfl (lv_at hl 0 rfl) ?_
    refine zz_get C hK hP fl_Sp_47 0 rfl rfl d_Sp_tower_13 ?_
    refine zz_gol (wr := [(o, .inr (6, [.ref o1, .ref o2, .ref o3, .ref o4, .ref o5, .ref h0]))]) [1, 2, 3] [0] rfl rfl (by decide) (by decide) hA hP hD hS (zz_runV (wc := [(h0, .inr (5, [.ref e1, .ref e2, .int (nI p2), .int (nI d2)])), (e1, zL E 41 f4), (e2, zI E 41 fo)]) (As := []) (rest := []) C (c_Tw_moves l E h0 e1 e2 p2 d2 f4 fo hp hd hT) ym_Tw_moves wd_ml_Sp_90 wd_im_Tw_moves wd_se_Tw_moves [1, 2, 3] (by decide) rfl hA hK hst hP hD hS (ci := 5) (q0 := 0) rfl rfl rfl rfl hl.1 rfl (Nat.le_of_ble_eq_true rfl) ⟨Nat.le_of_ble_eq_true rfl, Nat.le_of_ble_eq_true rfl⟩ ⟨Nat.le_of_ble_eq_true rfl, Nat.le_of_ble_eq_true rfl⟩ d_Sp_tower_16) (fun r_37 u H locs hw2 hP hD hS => ?_)
    have hP : va_P E.1 vwCl [(o, .inr (6, [.ref o1, .ref o2, .ref o3, .ref o4, .ref o5, .ref h0])), (h0, .inr (5, [.ref e1, .ref e2, .int (nI p2), .int (nI d2)])), (e1, zL E 41 f4), (e2, zI E 41 fo)] H := hP
    have hD : va_D A [(o, .inr (6, [.ref o1, .ref o2, .ref o3, .ref o4, .ref o5, .ref h0])), (h0, .inr (5, [.ref e1, .ref e2, .int (nI p2), .int (nI d2)])), (e1, zL E 41 f4), (e2, zI E 41 fo)] := hD
    refine lv_goto (tgt := 25) hx hb d_Sp_tower_19 (by decide) ?_
    exact zz_retl C hS () (hw2) hP hD d_Sp_tower_25

set_option maxHeartbeats 4000000 in
set_option maxRecDepth 100000 in
theorem c_Sp_towerMove_neg (l : Launch) (E : zG) (o o1 o2 o3 o4 o5 : Nat) (h0 e1 e2 pg ds : Nat) (f4 : Nat → Int64) (fo : Nat → Int32) (kx : Int64) (wh : Int32) (hk : kx < 0) : zMet l y_Sp_towerMove b_Sp_towerMove 4 (some .int) 4 115 0 0 E [.ref o, .long kx, .int wh] [(o, .inr (6, [.ref o1, .ref o2, .ref o3, .ref o4, .ref o5, .ref h0])), (h0, .inr (5, [.ref e1, .ref e2, .int (nI pg), .int (nI ds)])), (e1, zL E 41 f4), (e2, zI E 41 fo)] (zQi E (S := Unit) (fun r _ => r = -1) (fun _ => [(o, .inr (6, [.ref o1, .ref o2, .ref o3, .ref o4, .ref o5, .ref h0])), (h0, .inr (5, [.ref e1, .ref e2, .int (nI pg), .int (nI ds)])), (e1, zL E 41 f4), (e2, zI E 41 fo)])) := by
  refine zz_met (by decide +kernel) (Nat.le_of_ble_eq_true rfl) ?_
  intro p e s m below meth c A ls C hin hA hK hst hP hD hl
  obtain ⟨hx, hb, hr, hml, hown, hts, hlk⟩ := id C
  have hS : va_S A s.heap s.heap [] := va_S.rf
  have hl : lv_has ls 4 [(0, .ref o), (1, .long kx), (3, .int wh)] := hl
  refine lv_aload_n hx hb d_Sp_towerMove_0 rfl (lv_at hl 0 rfl) ?_
  refine zz_get C hK hP fl_Sp_47 0 rfl rfl d_Sp_towerMove_1 ?_
  refine lv_lload_n hx hb d_Sp_towerMove_4 rfl (lv_at hl 1 rfl) ?_
  refine lv_iload_n hx hb d_Sp_towerMove_5 rfl (lv_at hl 2 rfl) ?_
  refine zz_goi (wr := [(o, .inr (6, [.ref o1, .ref o2, .ref o3, .ref o4, .ref o5, .ref h0]))]) [1, 2, 3] [0] rfl rfl (by decide) (by decide) hA hP hD hS (zz_runV (wc := [(h0, .inr (5, [.ref e1, .ref e2, .int (nI pg), .int (nI ds)])), (e1, zL E 41 f4), (e2, zI E 41 fo)]) (As := [.long kx, .int wh]) (rest := []) C (c_Tw_tellMove_neg l E h0 e1 e2 pg ds f4 fo kx wh hk) ym_Tw_tellMove wd_ml_Sp_96 wd_im_Tw_tellMove wd_se_Tw_tellMove [1, 2, 3] (by decide) rfl hA hK hst hP hD hS (ci := 5) (q0 := 0) rfl rfl rfl rfl hl.1 rfl (Nat.le_of_ble_eq_true rfl) ⟨Nat.le_of_ble_eq_true rfl, Nat.le_of_ble_eq_true rfl⟩ ⟨Nat.le_of_ble_eq_true rfl, Nat.le_of_ble_eq_true rfl⟩ d_Sp_towerMove_6) (fun r_38 u H locs hw hP hD hS => ?_)
  have hP : va_P E.1 vwCl [(o, .inr (6, [.ref o1, .ref o2, .ref o3, .ref o4, .ref o5, .ref h0])), (h0, .inr (5, [.ref e1, .ref e2, .int (nI pg), .int (nI ds)])), (e1, zL E 41 f4), (e2, zI E 41 fo)] H := hP
  have hD : va_D A [(o, .inr (6, [.ref o1, .ref o2, .ref o3, .ref o4, .ref o5, .ref h0])), (h0, .inr (5, [.ref e1, .ref e2, .int (nI pg), .int (nI ds)])), (e1, zL E 41 f4), (e2, zI E 41 fo)] := hD
  exact zz_reti C (rfl) hS () (hw) hP hD d_Sp_towerMove_9

set_option maxHeartbeats 4000000 in
set_option maxRecDepth 100000 in
theorem c_Sp_towerMove_pos (l : Launch) (E : zG) (o o1 o2 o3 o4 o5 : Nat) (h0 e1 e2 pg ds : Nat) (f4 : Nat → Int64) (fo : Nat → Int32) (rest : Nat) (wh : Int32) (hr0 : rest < 9223372036854775808) (hp : pg = 3 ∨ pg = 4) (hd : ds ≤ 40) (hT : ∀ j, j < 41 → f4 j = lN (tw_F j) ∧ fo j = nI (tw_K j)) : zMet l y_Sp_towerMove b_Sp_towerMove 4 (some .int) 4 115 0 0 E [.ref o, .long (lN rest), .int wh] [(o, .inr (6, [.ref o1, .ref o2, .ref o3, .ref o4, .ref o5, .ref h0])), (h0, .inr (5, [.ref e1, .ref e2, .int (nI pg), .int (nI ds)])), (e1, zL E 41 f4), (e2, zI E 41 fo)] (zQi E (S := Unit) (fun r _ => r = tw_tell pg ds rest wh) (fun _ => [(o, .inr (6, [.ref o1, .ref o2, .ref o3, .ref o4, .ref o5, .ref h0])), (h0, .inr (5, [.ref e1, .ref e2, .int (nI pg), .int (nI ds)])), (e1, zL E 41 f4), (e2, zI E 41 fo)])) := by
  refine zz_met (by decide +kernel) (Nat.le_of_ble_eq_true rfl) ?_
  intro p e s m below meth c A ls C hin hA hK hst hP hD hl
  obtain ⟨hx, hb, hr, hml, hown, hts, hlk⟩ := id C
  have hS : va_S A s.heap s.heap [] := va_S.rf
  have hl : lv_has ls 4 [(0, .ref o), (1, .long (lN rest)), (3, .int wh)] := hl
  refine lv_aload_n hx hb d_Sp_towerMove_0 rfl (lv_at hl 0 rfl) ?_
  refine zz_get C hK hP fl_Sp_47 0 rfl rfl d_Sp_towerMove_1 ?_
  refine lv_lload_n hx hb d_Sp_towerMove_4 rfl (lv_at hl 1 rfl) ?_
  refine lv_iload_n hx hb d_Sp_towerMove_5 rfl (lv_at hl 2 rfl) ?_
  refine zz_goi (wr := [(o, .inr (6, [.ref o1, .ref o2, .ref o3, .ref o4, .ref o5, .ref h0]))]) [1, 2, 3] [0] rfl rfl (by decide) (by decide) hA hP hD hS (zz_runV (wc := [(h0, .inr (5, [.ref e1, .ref e2, .int (nI pg), .int (nI ds)])), (e1, zL E 41 f4), (e2, zI E 41 fo)]) (As := [.long (lN rest), .int wh]) (rest := []) C (c_Tw_tellMove_pos l E h0 e1 e2 pg ds f4 fo rest wh hr0 hp hd hT) ym_Tw_tellMove wd_ml_Sp_96 wd_im_Tw_tellMove wd_se_Tw_tellMove [1, 2, 3] (by decide) rfl hA hK hst hP hD hS (ci := 5) (q0 := 0) rfl rfl rfl rfl hl.1 rfl (Nat.le_of_ble_eq_true rfl) ⟨Nat.le_of_ble_eq_true rfl, Nat.le_of_ble_eq_true rfl⟩ ⟨Nat.le_of_ble_eq_true rfl, Nat.le_of_ble_eq_true rfl⟩ d_Sp_towerMove_6) (fun r_39 u H locs hw hP hD hS => ?_)
  have hP : va_P E.1 vwCl [(o, .inr (6, [.ref o1, .ref o2, .ref o3, .ref o4, .ref o5, .ref h0])), (h0, .inr (5, [.ref e1, .ref e2, .int (nI pg), .int (nI ds)])), (e1, zL E 41 f4), (e2, zI E 41 fo)] H := hP
  have hD : va_D A [(o, .inr (6, [.ref o1, .ref o2, .ref o3, .ref o4, .ref o5, .ref h0])), (h0, .inr (5, [.ref e1, .ref e2, .int (nI pg), .int (nI ds)])), (e1, zL E 41 f4), (e2, zI E 41 fo)] := hD
  exact zz_reti C (rfl) hS () (hw) hP hD d_Sp_towerMove_9

set_option maxHeartbeats 4000000 in
set_option maxRecDepth 100000 in
theorem c_Sp_jugs_kk (l : Launch) (E : zG) (o o2 o3 o6 : Nat) (h0 b1 b2 b3 b4 jc : Nat) (fS fF fW fV : Nat → Int32) (sz fl : Nat → Nat) (g0 a1 a2 n : Nat) (fT fQ : Nat → Int32) (mt : Int32) (f0 q1 q2 nf : Nat) (f1 f2 : Nat → Int32) (cn : Int32) (hJ : jg_ok jc sz fl fS fF) (hn : n ≤ 10000) (hnc : 10 ^ jc ≤ n) (hm : bfs_L (jg_RUN jc sz fl fW) ≤ nf) (hnf : nf < 2 ^ 31) : zMet l y_Sp_jugs b_Sp_jugs 1 (some .int) 4 101 0 0 E [.ref o] [(o, .inr (6, [.ref h0, .ref o2, .ref o3, .ref g0, .ref f0, .ref o6])), (f0, .inr (0, [.ref q1, .ref q2, .int cn])), (q1, zI E nf f1), (q2, zI E nf f2), (g0, .inr (4, [.ref a1, .ref a2, .int mt])), (a1, zI E n fT), (a2, zI E n fQ), (h0, .inr (1, [.ref b1, .ref b2, .ref b3, .ref b4, .int (nI jc)])), (b1, zI E 4 fS), (b2, zI E 4 fF), (b3, zI E 4 fW), (b4, zI E 4 fV)] (zQi E (S := (Nat → Int32) × (Nat → Int32) × (Nat → Int32) × (Nat → Int32) × (Nat → Int32) × Nat × Nat × Nat × Nat) (fun r u => r = bfs_A (jg_RUN jc sz fl fW) ∧ (∀ x, (jg_RUN jc sz fl fW).1 = some x → ∀ j, 0 ≤ j → j < bfs_L (jg_RUN jc sz fl fW) → u.2.2.2.1 j = (nI (((jg_RUN jc sz fl fW).2.1 (bfs_it (bfs_bf (jg_RUN jc sz fl fW).2.1) (bfs_L (jg_RUN jc sz fl fW) - 1 - j) x) - 1) % 256) >>> ((3 : Int32) &&& 31)) - 1 ∧ u.2.2.2.2.1 j = (nI (((jg_RUN jc sz fl fW).2.1 (bfs_it (bfs_bf (jg_RUN jc sz fl fW).2.1) (bfs_L (jg_RUN jc sz fl fW) - 1 - j) x) - 1) % 256) &&& 7) - 1) ∧ u.2.2.2.2.2.1 = a1 ∧ u.2.2.2.2.2.2.1 = a2 ∧ u.2.2.2.2.2.2.2.1 = q1 ∧ u.2.2.2.2.2.2.2.2 = q2) (fun u => [(o, .inr (6, [.ref h0, .ref o2, .ref o3, .ref g0, .ref f0, .ref o6])), (f0, .inr (0, [.ref u.2.2.2.2.2.2.2.1, .ref u.2.2.2.2.2.2.2.2, .int (nI (bfs_L (jg_RUN jc sz fl fW)))])), (u.2.2.2.2.2.2.2.1, zI E nf u.2.2.2.1), (u.2.2.2.2.2.2.2.2, zI E nf u.2.2.2.2.1), (g0, .inr (4, [.ref u.2.2.2.2.2.1, .ref u.2.2.2.2.2.2.1, .int (nI (jg_RUN jc sz fl fW).2.2.length)])), (u.2.2.2.2.2.1, zI E n u.2.1), (u.2.2.2.2.2.2.1, zI E n u.2.2.1), (h0, .inr (1, [.ref b1, .ref b2, .ref b3, .ref b4, .int (nI jc)])), (b1, zI E 4 fS), (b2, zI E 4 fF), (b3, zI E 4 fW), (b4, zI E 4 u.1)])) := by
  refine zz_met (by decide +kernel) (Nat.le_of_ble_eq_true rfl) ?_
  intro p e s m below meth c A ls C hin hA hK hst hP hD hl
  obtain ⟨hx, hb, hr, hml, hown, hts, hlk⟩ := id C
  have hS : va_S A s.heap s.heap [] := va_S.rf
  have hl : lv_has ls 1 [(0, .ref o)] := hl
  refine lv_aload_n hx hb d_Sp_jugs_0 rfl (lv_at hl 0 rfl) ?_
  refine lv_aload_n hx hb d_Sp_jugs_1 rfl (lv_at hl 0 rfl) ?_
  refine zz_get C hK hP fl_Sp_10 0 rfl rfl d_Sp_jugs_2 ?_
  refine zz_goi (wr := []) [0, 1, 2, 3, 4, 5, 6, 7, 8, 9, 10, 11] [] rfl rfl (by decide) (by decide) hA hP hD hS (zz_runV (wc := [(o, .inr (6, [.ref h0, .ref o2, .ref o3, .ref g0, .ref f0, .ref o6])), (f0, .inr (0, [.ref q1, .ref q2, .int cn])), (q1, zI E nf f1), (q2, zI E nf f2), (g0, .inr (4, [.ref a1, .ref a2, .int mt])), (a1, zI E n fT), (a2, zI E n fQ), (h0, .inr (1, [.ref b1, .ref b2, .ref b3, .ref b4, .int (nI jc)])), (b1, zI E 4 fS), (b2, zI E 4 fF), (b3, zI E 4 fW), (b4, zI E 4 fV)]) (As := [.ref h0]) (rest := []) C (c_Sp_find_Jkk l E o o2 o3 o6 h0 b1 b2 b3 b4 jc fS fF fW fV sz fl g0 a1 a2 n fT fQ mt f0 q1 q2 nf f1 f2 cn hJ hn hnc hm hnf) ym_Sp_find wd_ml_Sp_62 wd_im_Sp_find wd_se_Sp_find [0, 1, 2, 3, 4, 5, 6, 7, 8, 9, 10, 11] (by decide) rfl hA hK hst hP hD hS (ci := 6) (q0 := 0) rfl rfl rfl rfl hl.1 rfl (Nat.le_of_ble_eq_true rfl) ⟨Nat.le_of_ble_eq_true rfl, Nat.le_of_ble_eq_true rfl⟩ ⟨Nat.le_of_ble_eq_true rfl, Nat.le_of_ble_eq_true rfl⟩ d_Sp_jugs_5) (fun r1 u H locs hw hP hD hS => ?_)
  exact zz_reti C (rfl) hS u (hw) hP hD d_Sp_jugs_8

set_option maxHeartbeats 4000000 in
set_option maxRecDepth 100000 in
theorem c_Sp_jugs_kn (l : Launch) (E : zG) (o o2 o3 o6 : Nat) (h0 b1 b2 b3 b4 jc : Nat) (fS fF fW fV : Nat → Int32) (sz fl : Nat → Nat) (g0 a1 a2 n : Nat) (fT fQ : Nat → Int32) (mt : Int32) (f0 q1 q2 nf : Nat) (f1 f2 : Nat → Int32) (cn : Int32) (hJ : jg_ok jc sz fl fS fF) (hn : n ≤ 10000) (hnc : 10 ^ jc ≤ n) (hm : nf < bfs_L (jg_RUN jc sz fl fW)) (hnf : nf < 2 ^ 31) : zMet l y_Sp_jugs b_Sp_jugs 1 (some .int) 4 101 2 (bfs_L (jg_RUN jc sz fl fW) + bfs_L (jg_RUN jc sz fl fW)) E [.ref o] [(o, .inr (6, [.ref h0, .ref o2, .ref o3, .ref g0, .ref f0, .ref o6])), (f0, .inr (0, [.ref q1, .ref q2, .int cn])), (q1, zI E nf f1), (q2, zI E nf f2), (g0, .inr (4, [.ref a1, .ref a2, .int mt])), (a1, zI E n fT), (a2, zI E n fQ), (h0, .inr (1, [.ref b1, .ref b2, .ref b3, .ref b4, .int (nI jc)])), (b1, zI E 4 fS), (b2, zI E 4 fF), (b3, zI E 4 fW), (b4, zI E 4 fV)] (zQi E (S := (Nat → Int32) × (Nat → Int32) × (Nat → Int32) × (Nat → Int32) × (Nat → Int32) × Nat × Nat × Nat × Nat) (fun r u => r = bfs_A (jg_RUN jc sz fl fW) ∧ (∀ x, (jg_RUN jc sz fl fW).1 = some x → ∀ j, 0 ≤ j → j < bfs_L (jg_RUN jc sz fl fW) → u.2.2.2.1 j = (nI (((jg_RUN jc sz fl fW).2.1 (bfs_it (bfs_bf (jg_RUN jc sz fl fW).2.1) (bfs_L (jg_RUN jc sz fl fW) - 1 - j) x) - 1) % 256) >>> ((3 : Int32) &&& 31)) - 1 ∧ u.2.2.2.2.1 j = (nI (((jg_RUN jc sz fl fW).2.1 (bfs_it (bfs_bf (jg_RUN jc sz fl fW).2.1) (bfs_L (jg_RUN jc sz fl fW) - 1 - j) x) - 1) % 256) &&& 7) - 1) ∧ u.2.2.2.2.2.1 = a1 ∧ u.2.2.2.2.2.2.1 = a2) (fun u => [(o, .inr (6, [.ref h0, .ref o2, .ref o3, .ref g0, .ref f0, .ref o6])), (f0, .inr (0, [.ref u.2.2.2.2.2.2.2.1, .ref u.2.2.2.2.2.2.2.2, .int (nI (bfs_L (jg_RUN jc sz fl fW)))])), (u.2.2.2.2.2.2.2.1, zI E (bfs_L (jg_RUN jc sz fl fW)) u.2.2.2.1), (u.2.2.2.2.2.2.2.2, zI E (bfs_L (jg_RUN jc sz fl fW)) u.2.2.2.2.1), (g0, .inr (4, [.ref u.2.2.2.2.2.1, .ref u.2.2.2.2.2.2.1, .int (nI (jg_RUN jc sz fl fW).2.2.length)])), (u.2.2.2.2.2.1, zI E n u.2.1), (u.2.2.2.2.2.2.1, zI E n u.2.2.1), (h0, .inr (1, [.ref b1, .ref b2, .ref b3, .ref b4, .int (nI jc)])), (b1, zI E 4 fS), (b2, zI E 4 fF), (b3, zI E 4 fW), (b4, zI E 4 u.1)])) := by
  refine zz_met (by decide +kernel) (Nat.le_of_ble_eq_true rfl) ?_
  intro p e s m below meth c A ls C hin hA hK hst hP hD hl
  obtain ⟨hx, hb, hr, hml, hown, hts, hlk⟩ := id C
  have hS : va_S A s.heap s.heap [] := va_S.rf
  have hl : lv_has ls 1 [(0, .ref o)] := hl
  refine lv_aload_n hx hb d_Sp_jugs_0 rfl (lv_at hl 0 rfl) ?_
  refine lv_aload_n hx hb d_Sp_jugs_1 rfl (lv_at hl 0 rfl) ?_
  refine zz_get C hK hP fl_Sp_10 0 rfl rfl d_Sp_jugs_2 ?_
  refine zz_goi (wr := []) [0, 1, 2, 3, 4, 5, 6, 7, 8, 9, 10, 11] [] rfl rfl (by decide) (by decide) hA hP hD hS (zz_runV (wc := [(o, .inr (6, [.ref h0, .ref o2, .ref o3, .ref g0, .ref f0, .ref o6])), (f0, .inr (0, [.ref q1, .ref q2, .int cn])), (q1, zI E nf f1), (q2, zI E nf f2), (g0, .inr (4, [.ref a1, .ref a2, .int mt])), (a1, zI E n fT), (a2, zI E n fQ), (h0, .inr (1, [.ref b1, .ref b2, .ref b3, .ref b4, .int (nI jc)])), (b1, zI E 4 fS), (b2, zI E 4 fF), (b3, zI E 4 fW), (b4, zI E 4 fV)]) (As := [.ref h0]) (rest := []) C (c_Sp_find_Jkn l E o o2 o3 o6 h0 b1 b2 b3 b4 jc fS fF fW fV sz fl g0 a1 a2 n fT fQ mt f0 q1 q2 nf f1 f2 cn hJ hn hnc hm hnf) ym_Sp_find wd_ml_Sp_62 wd_im_Sp_find wd_se_Sp_find [0, 1, 2, 3, 4, 5, 6, 7, 8, 9, 10, 11] (by decide) rfl hA hK hst hP hD hS (ci := 6) (q0 := 0) rfl rfl rfl rfl hl.1 rfl (Nat.le_of_ble_eq_true rfl) ⟨Nat.le_of_ble_eq_true rfl, Nat.le_of_ble_eq_true rfl⟩ ⟨by dsimp only [zR]; omega, by dsimp only [zR]; omega⟩ d_Sp_jugs_5) (fun r1 u H locs hw hP hD hS => ?_)
  refine W.widen (k := 2) (n := (bfs_L (jg_RUN jc sz fl fW) + bfs_L (jg_RUN jc sz fl fW))) (by omega) (by omega) ?_
  exact zz_reti C (rfl) hS u (hw) hP hD d_Sp_jugs_8

set_option maxHeartbeats 4000000 in
set_option maxRecDepth 100000 in
theorem c_Sp_jugs_nk (l : Launch) (E : zG) (o o2 o3 o6 : Nat) (h0 b1 b2 b3 b4 jc : Nat) (fS fF fW fV : Nat → Int32) (sz fl : Nat → Nat) (g0 a1 a2 n : Nat) (fT fQ : Nat → Int32) (mt : Int32) (f0 q1 q2 nf : Nat) (f1 f2 : Nat → Int32) (cn : Int32) (hJ : jg_ok jc sz fl fS fF) (hnc : n < 10 ^ jc) (hm : bfs_L (jg_RUN jc sz fl fW) ≤ nf) (hnf : nf < 2 ^ 31) : zMet l y_Sp_jugs b_Sp_jugs 1 (some .int) 4 101 2 (10 ^ jc + 10 ^ jc) E [.ref o] [(o, .inr (6, [.ref h0, .ref o2, .ref o3, .ref g0, .ref f0, .ref o6])), (f0, .inr (0, [.ref q1, .ref q2, .int cn])), (q1, zI E nf f1), (q2, zI E nf f2), (g0, .inr (4, [.ref a1, .ref a2, .int mt])), (a1, zI E n fT), (a2, zI E n fQ), (h0, .inr (1, [.ref b1, .ref b2, .ref b3, .ref b4, .int (nI jc)])), (b1, zI E 4 fS), (b2, zI E 4 fF), (b3, zI E 4 fW), (b4, zI E 4 fV)] (zQi E (S := (Nat → Int32) × (Nat → Int32) × (Nat → Int32) × (Nat → Int32) × (Nat → Int32) × Nat × Nat × Nat × Nat) (fun r u => r = bfs_A (jg_RUN jc sz fl fW) ∧ (∀ x, (jg_RUN jc sz fl fW).1 = some x → ∀ j, 0 ≤ j → j < bfs_L (jg_RUN jc sz fl fW) → u.2.2.2.1 j = (nI (((jg_RUN jc sz fl fW).2.1 (bfs_it (bfs_bf (jg_RUN jc sz fl fW).2.1) (bfs_L (jg_RUN jc sz fl fW) - 1 - j) x) - 1) % 256) >>> ((3 : Int32) &&& 31)) - 1 ∧ u.2.2.2.2.1 j = (nI (((jg_RUN jc sz fl fW).2.1 (bfs_it (bfs_bf (jg_RUN jc sz fl fW).2.1) (bfs_L (jg_RUN jc sz fl fW) - 1 - j) x) - 1) % 256) &&& 7) - 1) ∧ u.2.2.2.2.2.2.2.1 = q1 ∧ u.2.2.2.2.2.2.2.2 = q2) (fun u => [(o, .inr (6, [.ref h0, .ref o2, .ref o3, .ref g0, .ref f0, .ref o6])), (f0, .inr (0, [.ref u.2.2.2.2.2.2.2.1, .ref u.2.2.2.2.2.2.2.2, .int (nI (bfs_L (jg_RUN jc sz fl fW)))])), (u.2.2.2.2.2.2.2.1, zI E nf u.2.2.2.1), (u.2.2.2.2.2.2.2.2, zI E nf u.2.2.2.2.1), (g0, .inr (4, [.ref u.2.2.2.2.2.1, .ref u.2.2.2.2.2.2.1, .int (nI (jg_RUN jc sz fl fW).2.2.length)])), (u.2.2.2.2.2.1, zI E (10 ^ jc) u.2.1), (u.2.2.2.2.2.2.1, zI E (10 ^ jc) u.2.2.1), (h0, .inr (1, [.ref b1, .ref b2, .ref b3, .ref b4, .int (nI jc)])), (b1, zI E 4 fS), (b2, zI E 4 fF), (b3, zI E 4 fW), (b4, zI E 4 u.1)])) := by
  refine zz_met (by decide +kernel) (Nat.le_of_ble_eq_true rfl) ?_
  intro p e s m below meth c A ls C hin hA hK hst hP hD hl
  obtain ⟨hx, hb, hr, hml, hown, hts, hlk⟩ := id C
  have hS : va_S A s.heap s.heap [] := va_S.rf
  have hl : lv_has ls 1 [(0, .ref o)] := hl
  refine lv_aload_n hx hb d_Sp_jugs_0 rfl (lv_at hl 0 rfl) ?_
  refine lv_aload_n hx hb d_Sp_jugs_1 rfl (lv_at hl 0 rfl) ?_
  refine zz_get C hK hP fl_Sp_10 0 rfl rfl d_Sp_jugs_2 ?_
  refine zz_goi (wr := []) [0, 1, 2, 3, 4, 5, 6, 7, 8, 9, 10, 11] [] rfl rfl (by decide) (by decide) hA hP hD hS (zz_runV (wc := [(o, .inr (6, [.ref h0, .ref o2, .ref o3, .ref g0, .ref f0, .ref o6])), (f0, .inr (0, [.ref q1, .ref q2, .int cn])), (q1, zI E nf f1), (q2, zI E nf f2), (g0, .inr (4, [.ref a1, .ref a2, .int mt])), (a1, zI E n fT), (a2, zI E n fQ), (h0, .inr (1, [.ref b1, .ref b2, .ref b3, .ref b4, .int (nI jc)])), (b1, zI E 4 fS), (b2, zI E 4 fF), (b3, zI E 4 fW), (b4, zI E 4 fV)]) (As := [.ref h0]) (rest := []) C (c_Sp_find_Jnk l E o o2 o3 o6 h0 b1 b2 b3 b4 jc fS fF fW fV sz fl g0 a1 a2 n fT fQ mt f0 q1 q2 nf f1 f2 cn hJ hnc hm hnf) ym_Sp_find wd_ml_Sp_62 wd_im_Sp_find wd_se_Sp_find [0, 1, 2, 3, 4, 5, 6, 7, 8, 9, 10, 11] (by decide) rfl hA hK hst hP hD hS (ci := 6) (q0 := 0) rfl rfl rfl rfl hl.1 rfl (Nat.le_of_ble_eq_true rfl) ⟨Nat.le_of_ble_eq_true rfl, Nat.le_of_ble_eq_true rfl⟩ ⟨by dsimp only [zR]; omega, by dsimp only [zR]; omega⟩ d_Sp_jugs_5) (fun r1 u H locs hw hP hD hS => ?_)
  refine W.widen (k := 2) (n := (10 ^ jc + 10 ^ jc)) (by omega) (by omega) ?_
  exact zz_reti C (rfl) hS u (hw) hP hD d_Sp_jugs_8

set_option maxHeartbeats 4000000 in
set_option maxRecDepth 100000 in
theorem c_Sp_jugs_nn (l : Launch) (E : zG) (o o2 o3 o6 : Nat) (h0 b1 b2 b3 b4 jc : Nat) (fS fF fW fV : Nat → Int32) (sz fl : Nat → Nat) (g0 a1 a2 n : Nat) (fT fQ : Nat → Int32) (mt : Int32) (f0 q1 q2 nf : Nat) (f1 f2 : Nat → Int32) (cn : Int32) (hJ : jg_ok jc sz fl fS fF) (hnc : n < 10 ^ jc) (hm : nf < bfs_L (jg_RUN jc sz fl fW)) (hnf : nf < 2 ^ 31) : zMet l y_Sp_jugs b_Sp_jugs 1 (some .int) 4 101 (2 + 2) ((10 ^ jc + 10 ^ jc) + (bfs_L (jg_RUN jc sz fl fW) + bfs_L (jg_RUN jc sz fl fW))) E [.ref o] [(o, .inr (6, [.ref h0, .ref o2, .ref o3, .ref g0, .ref f0, .ref o6])), (f0, .inr (0, [.ref q1, .ref q2, .int cn])), (q1, zI E nf f1), (q2, zI E nf f2), (g0, .inr (4, [.ref a1, .ref a2, .int mt])), (a1, zI E n fT), (a2, zI E n fQ), (h0, .inr (1, [.ref b1, .ref b2, .ref b3, .ref b4, .int (nI jc)])), (b1, zI E 4 fS), (b2, zI E 4 fF), (b3, zI E 4 fW), (b4, zI E 4 fV)] (zQi E (S := (Nat → Int32) × (Nat → Int32) × (Nat → Int32) × (Nat → Int32) × (Nat → Int32) × Nat × Nat × Nat × Nat) (fun r u => r = bfs_A (jg_RUN jc sz fl fW) ∧ (∀ x, (jg_RUN jc sz fl fW).1 = some x → ∀ j, 0 ≤ j → j < bfs_L (jg_RUN jc sz fl fW) → u.2.2.2.1 j = (nI (((jg_RUN jc sz fl fW).2.1 (bfs_it (bfs_bf (jg_RUN jc sz fl fW).2.1) (bfs_L (jg_RUN jc sz fl fW) - 1 - j) x) - 1) % 256) >>> ((3 : Int32) &&& 31)) - 1 ∧ u.2.2.2.2.1 j = (nI (((jg_RUN jc sz fl fW).2.1 (bfs_it (bfs_bf (jg_RUN jc sz fl fW).2.1) (bfs_L (jg_RUN jc sz fl fW) - 1 - j) x) - 1) % 256) &&& 7) - 1)) (fun u => [(o, .inr (6, [.ref h0, .ref o2, .ref o3, .ref g0, .ref f0, .ref o6])), (f0, .inr (0, [.ref u.2.2.2.2.2.2.2.1, .ref u.2.2.2.2.2.2.2.2, .int (nI (bfs_L (jg_RUN jc sz fl fW)))])), (u.2.2.2.2.2.2.2.1, zI E (bfs_L (jg_RUN jc sz fl fW)) u.2.2.2.1), (u.2.2.2.2.2.2.2.2, zI E (bfs_L (jg_RUN jc sz fl fW)) u.2.2.2.2.1), (g0, .inr (4, [.ref u.2.2.2.2.2.1, .ref u.2.2.2.2.2.2.1, .int (nI (jg_RUN jc sz fl fW).2.2.length)])), (u.2.2.2.2.2.1, zI E (10 ^ jc) u.2.1), (u.2.2.2.2.2.2.1, zI E (10 ^ jc) u.2.2.1), (h0, .inr (1, [.ref b1, .ref b2, .ref b3, .ref b4, .int (nI jc)])), (b1, zI E 4 fS), (b2, zI E 4 fF), (b3, zI E 4 fW), (b4, zI E 4 u.1)])) := by
  refine zz_met (by decide +kernel) (Nat.le_of_ble_eq_true rfl) ?_
  intro p e s m below meth c A ls C hin hA hK hst hP hD hl
  obtain ⟨hx, hb, hr, hml, hown, hts, hlk⟩ := id C
  have hS : va_S A s.heap s.heap [] := va_S.rf
  have hl : lv_has ls 1 [(0, .ref o)] := hl
  refine lv_aload_n hx hb d_Sp_jugs_0 rfl (lv_at hl 0 rfl) ?_
  refine lv_aload_n hx hb d_Sp_jugs_1 rfl (lv_at hl 0 rfl) ?_
  refine zz_get C hK hP fl_Sp_10 0 rfl rfl d_Sp_jugs_2 ?_
  refine zz_goi (wr := []) [0, 1, 2, 3, 4, 5, 6, 7, 8, 9, 10, 11] [] rfl rfl (by decide) (by decide) hA hP hD hS (zz_runV (wc := [(o, .inr (6, [.ref h0, .ref o2, .ref o3, .ref g0, .ref f0, .ref o6])), (f0, .inr (0, [.ref q1, .ref q2, .int cn])), (q1, zI E nf f1), (q2, zI E nf f2), (g0, .inr (4, [.ref a1, .ref a2, .int mt])), (a1, zI E n fT), (a2, zI E n fQ), (h0, .inr (1, [.ref b1, .ref b2, .ref b3, .ref b4, .int (nI jc)])), (b1, zI E 4 fS), (b2, zI E 4 fF), (b3, zI E 4 fW), (b4, zI E 4 fV)]) (As := [.ref h0]) (rest := []) C (c_Sp_find_Jnn l E o o2 o3 o6 h0 b1 b2 b3 b4 jc fS fF fW fV sz fl g0 a1 a2 n fT fQ mt f0 q1 q2 nf f1 f2 cn hJ hnc hm hnf) ym_Sp_find wd_ml_Sp_62 wd_im_Sp_find wd_se_Sp_find [0, 1, 2, 3, 4, 5, 6, 7, 8, 9, 10, 11] (by decide) rfl hA hK hst hP hD hS (ci := 6) (q0 := 0) rfl rfl rfl rfl hl.1 rfl (Nat.le_of_ble_eq_true rfl) ⟨Nat.le_of_ble_eq_true rfl, Nat.le_of_ble_eq_true rfl⟩ ⟨by dsimp only [zR]; omega, by dsimp only [zR]; omega⟩ d_Sp_jugs_5) (fun r1 u H locs hw hP hD hS => ?_)
  refine W.widen (k := 2 + 2) (n := (10 ^ jc + 10 ^ jc) + (bfs_L (jg_RUN jc sz fl fW) + bfs_L (jg_RUN jc sz fl fW))) (by omega) (by omega) ?_
  exact zz_reti C (rfl) hS u (hw) hP hD d_Sp_jugs_8

set_option maxHeartbeats 4000000 in
set_option maxRecDepth 100000 in
theorem c_Sp_init (l : Launch) (E : zG) (o : Nat) : zMet l y_Sp_init b_Sp_init 1 none 3 60 19 1275 E [.ref o] [(o, .inr (6, [.null, .null, .null, .null, .null, .null]))] (zQv E (S := Nat × Nat × Nat × Nat × Nat × Nat × Nat × Nat × Nat × Nat × Nat × Nat × Nat × Nat × Nat × Nat × Nat × Nat × Nat × (Nat → Int64) × (Nat → Int32)) (fun u => ∀ j, j < 41 → u.2.2.2.2.2.2.2.2.2.2.2.2.2.2.2.2.2.2.2.1 j = lN (tw_F j) ∧ u.2.2.2.2.2.2.2.2.2.2.2.2.2.2.2.2.2.2.2.2 j = nI (tw_K j)) (fun u => [(o, .inr (6, [.ref u.1, .ref u.2.2.2.2.2.1, .ref u.2.2.2.2.2.2.2.2.1, .ref u.2.2.2.2.2.2.2.2.2.2.1, .ref u.2.2.2.2.2.2.2.2.2.2.2.2.2.1, .ref u.2.2.2.2.2.2.2.2.2.2.2.2.2.2.2.2.1])), (u.1, .inr (1, [.ref u.2.1, .ref u.2.2.1, .ref u.2.2.2.1, .ref u.2.2.2.2.1, .int 0])), (u.2.1, zI E 4 (fun _ => 0)), (u.2.2.1, zI E 4 (fun _ => 0)), (u.2.2.2.1, zI E 4 (fun _ => 0)), (u.2.2.2.2.1, zI E 4 (fun _ => 0)), (u.2.2.2.2.2.1, .inr (2, [.ref u.2.2.2.2.2.2.1, .ref u.2.2.2.2.2.2.2.1, .int 0, .int 0])), (u.2.2.2.2.2.2.1, zI E 8 (fun _ => 0)), (u.2.2.2.2.2.2.2.1, zI E 8 (fun _ => 0)), (u.2.2.2.2.2.2.2.2.1, .inr (3, [.ref u.2.2.2.2.2.2.2.2.2.1, .int 0])), (u.2.2.2.2.2.2.2.2.2.1, zI E 100 (fun _ => 0)), (u.2.2.2.2.2.2.2.2.2.2.1, .inr (4, [.ref u.2.2.2.2.2.2.2.2.2.2.2.1, .ref u.2.2.2.2.2.2.2.2.2.2.2.2.1, .int 0])), (u.2.2.2.2.2.2.2.2.2.2.2.1, zI E 512 (fun _ => 0)), (u.2.2.2.2.2.2.2.2.2.2.2.2.1, zI E 512 (fun _ => 0)), (u.2.2.2.2.2.2.2.2.2.2.2.2.2.1, .inr (0, [.ref u.2.2.2.2.2.2.2.2.2.2.2.2.2.2.1, .ref u.2.2.2.2.2.2.2.2.2.2.2.2.2.2.2.1, .int 0])), (u.2.2.2.2.2.2.2.2.2.2.2.2.2.2.1, zI E 8 (fun _ => 0)), (u.2.2.2.2.2.2.2.2.2.2.2.2.2.2.2.1, zI E 8 (fun _ => 0)), (u.2.2.2.2.2.2.2.2.2.2.2.2.2.2.2.2.1, .inr (5, [.ref u.2.2.2.2.2.2.2.2.2.2.2.2.2.2.2.2.2.1, .ref u.2.2.2.2.2.2.2.2.2.2.2.2.2.2.2.2.2.2.1, .int 3, .int 0])), (u.2.2.2.2.2.2.2.2.2.2.2.2.2.2.2.2.2.1, zL E 41 u.2.2.2.2.2.2.2.2.2.2.2.2.2.2.2.2.2.2.2.1), (u.2.2.2.2.2.2.2.2.2.2.2.2.2.2.2.2.2.2.1, zI E 41 u.2.2.2.2.2.2.2.2.2.2.2.2.2.2.2.2.2.2.2.2)])) := by
  refine zz_met (by decide +kernel) (Nat.le_of_ble_eq_true rfl) ?_
  intro p e s m below meth c A ls C hin hA hK hst hP hD hl
  obtain ⟨hx, hb, hr, hml, hown, hts, hlk⟩ := id C
  have hS : va_S A s.heap s.heap [] := va_S.rf
  have hl : lv_has ls 1 [(0, .ref o)] := hl
  refine lv_aload_n hx hb d_Sp_init_0 rfl (lv_at hl 0 rfl) ?_
  refine zz_oi C wd_ml_Sp_1 wd_im_obj wd_cd_obj hl.1 (Nat.le_of_ble_eq_true rfl) (Nat.le_of_ble_eq_true rfl) d_Sp_init_1 ?_
  refine lv_aload_n hx hb d_Sp_init_4 rfl (lv_at hl 0 rfl) ?_
  refine zz_new C hK hP hD hS hA t_Js cw_Js ct_Js wd_cl_Sp_7 wd_is_Js wd_in_Js (ci := 1) rfl (fs := [.null, .null, .null, .null, .int 0]) (fun j hj => by rcases (show j = 0 ∨ j = 1 ∨ j = 2 ∨ j = 3 ∨ j = 4 by omega) with rfl | rfl | rfl | rfl | rfl <;> rfl) (Nat.le_of_ble_eq_true rfl) (Nat.le_of_ble_eq_true rfl) d_Sp_init_5 (fun q_40 H hP hD hS => ?_)
  have hP : va_P E.1 vwCl [(o, .inr (6, [.null, .null, .null, .null, .null, .null])), (q_40, .inr (1, [.null, .null, .null, .null, .int 0]))] H := hP
  have hD : va_D A [(o, .inr (6, [.null, .null, .null, .null, .null, .null])), (q_40, .inr (1, [.null, .null, .null, .null, .int 0]))] := hD
  refine lv_dup hx hb d_Sp_init_8 rfl ?_
  refine zz_gov (wr := [(o, .inr (6, [.null, .null, .null, .null, .null, .null]))]) [1] [0] rfl rfl (by decide) (by decide) hA hP hD hS (zz_runIN (wc := [(q_40, .inr (1, [.null, .null, .null, .null, .int 0]))]) (As := []) (rest := [.ref q_40, .ref o]) C (c_Js_init l E q_40) ym_Js_init wd_mn_Sp_9 wd_im_Js_init rfl [1] (by decide) rfl hA hK hst hP hD hS rfl hl.1 rfl (Nat.le_of_ble_eq_true rfl) ⟨Nat.le_of_ble_eq_true rfl, Nat.le_of_ble_eq_true rfl⟩ ⟨Nat.le_of_ble_eq_true rfl, Nat.le_of_ble_eq_true rfl⟩ d_Sp_init_9) (fun u_41 H locs hw_Js hP hD hS => ?_)
  have hP : va_P E.1 vwCl [(o, .inr (6, [.null, .null, .null, .null, .null, .null])), (q_40, .inr (1, [.ref u_41.1, .ref u_41.2.1, .ref u_41.2.2.1, .ref u_41.2.2.2, .int 0])), (u_41.1, zI E 4 (fun _ => 0)), (u_41.2.1, zI E 4 (fun _ => 0)), (u_41.2.2.1, zI E 4 (fun _ => 0)), (u_41.2.2.2, zI E 4 (fun _ => 0))] H := hP
  have hD : va_D A [(o, .inr (6, [.null, .null, .null, .null, .null, .null])), (q_40, .inr (1, [.ref u_41.1, .ref u_41.2.1, .ref u_41.2.2.1, .ref u_41.2.2.2, .int 0])), (u_41.1, zI E 4 (fun _ => 0)), (u_41.2.1, zI E 4 (fun _ => 0)), (u_41.2.2.1, zI E 4 (fun _ => 0)), (u_41.2.2.2, zI E 4 (fun _ => 0))] := hD
  obtain ⟨z_43, z_44, z_45, z_46⟩ := u_41
  have hP : va_P E.1 vwCl [(o, .inr (6, [.null, .null, .null, .null, .null, .null])), (q_40, .inr (1, [.ref z_43, .ref z_44, .ref z_45, .ref z_46, .int 0])), (z_43, zI E 4 (fun _ => 0)), (z_44, zI E 4 (fun _ => 0)), (z_45, zI E 4 (fun _ => 0)), (z_46, zI E 4 (fun _ => 0))] H := hP
  have hD : va_D A [(o, .inr (6, [.null, .null, .null, .null, .null, .null])), (q_40, .inr (1, [.ref z_43, .ref z_44, .ref z_45, .ref z_46, .int 0])), (z_43, zI E 4 (fun _ => 0)), (z_44, zI E 4 (fun _ => 0)), (z_45, zI E 4 (fun _ => 0)), (z_46, zI E 4 (fun _ => 0))] := hD
  refine zz_putF C hin hK hP hD hS fl_Sp_10 (fun q h => by cases h; rfl) 0 rfl rfl rfl (Nat.le_of_ble_eq_true rfl) d_Sp_init_12 (fun H locs hP hD hS => ?_)
  have hP : va_P E.1 vwCl [(o, .inr (6, [.ref q_40, .null, .null, .null, .null, .null])), (q_40, .inr (1, [.ref z_43, .ref z_44, .ref z_45, .ref z_46, .int 0])), (z_43, zI E 4 (fun _ => 0)), (z_44, zI E 4 (fun _ => 0)), (z_45, zI E 4 (fun _ => 0)), (z_46, zI E 4 (fun _ => 0))] H := hP
  have hD : va_D A [(o, .inr (6, [.ref q_40, .null, .null, .null, .null, .null])), (q_40, .inr (1, [.ref z_43, .ref z_44, .ref z_45, .ref z_46, .int 0])), (z_43, zI E 4 (fun _ => 0)), (z_44, zI E 4 (fun _ => 0)), (z_45, zI E 4 (fun _ => 0)), (z_46, zI E 4 (fun _ => 0))] := hD
  refine lv_aload_n hx hb d_Sp_init_15 rfl (lv_at hl 0 rfl) ?_
  refine zz_new C hK hP hD hS hA t_Rv cw_Rv ct_Rv wd_cl_Sp_16 wd_is_Rv wd_in_Rv (ci := 2) rfl (fs := [.null, .null, .int 0, .int 0]) (fun j hj => by rcases (show j = 0 ∨ j = 1 ∨ j = 2 ∨ j = 3 by omega) with rfl | rfl | rfl | rfl <;> rfl) (Nat.le_of_ble_eq_true rfl) (Nat.le_of_ble_eq_true rfl) d_Sp_init_16 (fun q_47 H hP hD hS => ?_)
  have hP : va_P E.1 vwCl [(o, .inr (6, [.ref q_40, .null, .null, .null, .null, .null])), (q_40, .inr (1, [.ref z_43, .ref z_44, .ref z_45, .ref z_46, .int 0])), (z_43, zI E 4 (fun _ => 0)), (z_44, zI E 4 (fun _ => 0)), (z_45, zI E 4 (fun _ => 0)), (z_46, zI E 4 (fun _ => 0)), (q_47, .inr (2, [.null, .null, .int 0, .int 0]))] H := hP
  have hD : va_D A [(o, .inr (6, [.ref q_40, .null, .null, .null, .null, .null])), (q_40, .inr (1, [.ref z_43, .ref z_44, .ref z_45, .ref z_46, .int 0])), (z_43, zI E 4 (fun _ => 0)), (z_44, zI E 4 (fun _ => 0)), (z_45, zI E 4 (fun _ => 0)), (z_46, zI E 4 (fun _ => 0)), (q_47, .inr (2, [.null, .null, .int 0, .int 0]))] := hD
  refine lv_dup hx hb d_Sp_init_19 rfl ?_
  refine zz_gov (wr := [(o, .inr (6, [.ref q_40, .null, .null, .null, .null, .null])), (q_40, .inr (1, [.ref z_43, .ref z_44, .ref z_45, .ref z_46, .int 0])), (z_43, zI E 4 (fun _ => 0)), (z_44, zI E 4 (fun _ => 0)), (z_45, zI E 4 (fun _ => 0)), (z_46, zI E 4 (fun _ => 0))]) [6] [0, 1, 2, 3, 4, 5] rfl rfl (by decide) (by decide) hA hP hD hS (zz_runIN (wc := [(q_47, .inr (2, [.null, .null, .int 0, .int 0]))]) (As := []) (rest := [.ref q_47, .ref o]) C (c_Rv_init l E q_47) ym_Rv_init wd_mn_Sp_18 wd_im_Rv_init rfl [6] (by decide) rfl hA hK hst hP hD hS rfl hl.1 rfl (Nat.le_of_ble_eq_true rfl) ⟨Nat.le_of_ble_eq_true rfl, Nat.le_of_ble_eq_true rfl⟩ ⟨Nat.le_of_ble_eq_true rfl, Nat.le_of_ble_eq_true rfl⟩ d_Sp_init_20) (fun u_48 H locs hw_Rv hP hD hS => ?_)
  have hP : va_P E.1 vwCl [(o, .inr (6, [.ref q_40, .null, .null, .null, .null, .null])), (q_40, .inr (1, [.ref z_43, .ref z_44, .ref z_45, .ref z_46, .int 0])), (z_43, zI E 4 (fun _ => 0)), (z_44, zI E 4 (fun _ => 0)), (z_45, zI E 4 (fun _ => 0)), (z_46, zI E 4 (fun _ => 0)), (q_47, .inr (2, [.ref u_48.1, .ref u_48.2, .int 0, .int 0])), (u_48.1, zI E 8 (fun _ => 0)), (u_48.2, zI E 8 (fun _ => 0))] H := hP
  have hD : va_D A [(o, .inr (6, [.ref q_40, .null, .null, .null, .null, .null])), (q_40, .inr (1, [.ref z_43, .ref z_44, .ref z_45, .ref z_46, .int 0])), (z_43, zI E 4 (fun _ => 0)), (z_44, zI E 4 (fun _ => 0)), (z_45, zI E 4 (fun _ => 0)), (z_46, zI E 4 (fun _ => 0)), (q_47, .inr (2, [.ref u_48.1, .ref u_48.2, .int 0, .int 0])), (u_48.1, zI E 8 (fun _ => 0)), (u_48.2, zI E 8 (fun _ => 0))] := hD
  obtain ⟨z_50, z_51⟩ := u_48
  have hP : va_P E.1 vwCl [(o, .inr (6, [.ref q_40, .null, .null, .null, .null, .null])), (q_40, .inr (1, [.ref z_43, .ref z_44, .ref z_45, .ref z_46, .int 0])), (z_43, zI E 4 (fun _ => 0)), (z_44, zI E 4 (fun _ => 0)), (z_45, zI E 4 (fun _ => 0)), (z_46, zI E 4 (fun _ => 0)), (q_47, .inr (2, [.ref z_50, .ref z_51, .int 0, .int 0])), (z_50, zI E 8 (fun _ => 0)), (z_51, zI E 8 (fun _ => 0))] H := hP
  have hD : va_D A [(o, .inr (6, [.ref q_40, .null, .null, .null, .null, .null])), (q_40, .inr (1, [.ref z_43, .ref z_44, .ref z_45, .ref z_46, .int 0])), (z_43, zI E 4 (fun _ => 0)), (z_44, zI E 4 (fun _ => 0)), (z_45, zI E 4 (fun _ => 0)), (z_46, zI E 4 (fun _ => 0)), (q_47, .inr (2, [.ref z_50, .ref z_51, .int 0, .int 0])), (z_50, zI E 8 (fun _ => 0)), (z_51, zI E 8 (fun _ => 0))] := hD
  refine zz_putF C hin hK hP hD hS fl_Sp_19 (fun q h => by cases h; rfl) 0 rfl rfl rfl (Nat.le_of_ble_eq_true rfl) d_Sp_init_23 (fun H locs hP hD hS => ?_)
  have hP : va_P E.1 vwCl [(o, .inr (6, [.ref q_40, .ref q_47, .null, .null, .null, .null])), (q_40, .inr (1, [.ref z_43, .ref z_44, .ref z_45, .ref z_46, .int 0])), (z_43, zI E 4 (fun _ => 0)), (z_44, zI E 4 (fun _ => 0)), (z_45, zI E 4 (fun _ => 0)), (z_46, zI E 4 (fun _ => 0)), (q_47, .inr (2, [.ref z_50, .ref z_51, .int 0, .int 0])), (z_50, zI E 8 (fun _ => 0)), (z_51, zI E 8 (fun _ => 0))] H := hP
  have hD : va_D A [(o, .inr (6, [.ref q_40, .ref q_47, .null, .null, .null, .null])), (q_40, .inr (1, [.ref z_43, .ref z_44, .ref z_45, .ref z_46, .int 0])), (z_43, zI E 4 (fun _ => 0)), (z_44, zI E 4 (fun _ => 0)), (z_45, zI E 4 (fun _ => 0)), (z_46, zI E 4 (fun _ => 0)), (q_47, .inr (2, [.ref z_50, .ref z_51, .int 0, .int 0])), (z_50, zI E 8 (fun _ => 0)), (z_51, zI E 8 (fun _ => 0))] := hD
  refine lv_aload_n hx hb d_Sp_init_26 rfl (lv_at hl 0 rfl) ?_
  refine zz_new C hK hP hD hS hA t_Rt cw_Rt ct_Rt wd_cl_Sp_23 wd_is_Rt wd_in_Rt (ci := 3) rfl (fs := [.null, .int 0]) (fun j hj => by rcases (show j = 0 ∨ j = 1 by omega) with rfl | rfl <;> rfl) (Nat.le_of_ble_eq_true rfl) (Nat.le_of_ble_eq_true rfl) d_Sp_init_27 (fun q_52 H hP hD hS => ?_)
  have hP : va_P E.1 vwCl [(o, .inr (6, [.ref q_40, .ref q_47, .null, .null, .null, .null])), (q_40, .inr (1, [.ref z_43, .ref z_44, .ref z_45, .ref z_46, .int 0])), (z_43, zI E 4 (fun _ => 0)), (z_44, zI E 4 (fun _ => 0)), (z_45, zI E 4 (fun _ => 0)), (z_46, zI E 4 (fun _ => 0)), (q_47, .inr (2, [.ref z_50, .ref z_51, .int 0, .int 0])), (z_50, zI E 8 (fun _ => 0)), (z_51, zI E 8 (fun _ => 0)), (q_52, .inr (3, [.null, .int 0]))] H := hP
  have hD : va_D A [(o, .inr (6, [.ref q_40, .ref q_47, .null, .null, .null, .null])), (q_40, .inr (1, [.ref z_43, .ref z_44, .ref z_45, .ref z_46, .int 0])), (z_43, zI E 4 (fun _ => 0)), (z_44, zI E 4 (fun _ => 0)), (z_45, zI E 4 (fun _ => 0)), (z_46, zI E 4 (fun _ => 0)), (q_47, .inr (2, [.ref z_50, .ref z_51, .int 0, .int 0])), (z_50, zI E 8 (fun _ => 0)), (z_51, zI E 8 (fun _ => 0)), (q_52, .inr (3, [.null, .int 0]))] := hD
  refine lv_dup hx hb d_Sp_init_30 rfl ?_
  refine zz_gov (wr := [(o, .inr (6, [.ref q_40, .ref q_47, .null, .null, .null, .null])), (q_40, .inr (1, [.ref z_43, .ref z_44, .ref z_45, .ref z_46, .int 0])), (z_43, zI E 4 (fun _ => 0)), (z_44, zI E 4 (fun _ => 0)), (z_45, zI E 4 (fun _ => 0)), (z_46, zI E 4 (fun _ => 0)), (q_47, .inr (2, [.ref z_50, .ref z_51, .int 0, .int 0])), (z_50, zI E 8 (fun _ => 0)), (z_51, zI E 8 (fun _ => 0))]) [9] [0, 1, 2, 3, 4, 5, 6, 7, 8] rfl rfl (by decide) (by decide) hA hP hD hS (zz_runIN (wc := [(q_52, .inr (3, [.null, .int 0]))]) (As := []) (rest := [.ref q_52, .ref o]) C (c_Rt_init l E q_52) ym_Rt_init wd_mn_Sp_25 wd_im_Rt_init rfl [9] (by decide) rfl hA hK hst hP hD hS rfl hl.1 rfl (Nat.le_of_ble_eq_true rfl) ⟨Nat.le_of_ble_eq_true rfl, Nat.le_of_ble_eq_true rfl⟩ ⟨Nat.le_of_ble_eq_true rfl, Nat.le_of_ble_eq_true rfl⟩ d_Sp_init_31) (fun u_53 H locs hw_Rt hP hD hS => ?_)
  have hP : va_P E.1 vwCl [(o, .inr (6, [.ref q_40, .ref q_47, .null, .null, .null, .null])), (q_40, .inr (1, [.ref z_43, .ref z_44, .ref z_45, .ref z_46, .int 0])), (z_43, zI E 4 (fun _ => 0)), (z_44, zI E 4 (fun _ => 0)), (z_45, zI E 4 (fun _ => 0)), (z_46, zI E 4 (fun _ => 0)), (q_47, .inr (2, [.ref z_50, .ref z_51, .int 0, .int 0])), (z_50, zI E 8 (fun _ => 0)), (z_51, zI E 8 (fun _ => 0)), (q_52, .inr (3, [.ref u_53, .int 0])), (u_53, zI E 100 (fun _ => 0))] H := hP
  have hD : va_D A [(o, .inr (6, [.ref q_40, .ref q_47, .null, .null, .null, .null])), (q_40, .inr (1, [.ref z_43, .ref z_44, .ref z_45, .ref z_46, .int 0])), (z_43, zI E 4 (fun _ => 0)), (z_44, zI E 4 (fun _ => 0)), (z_45, zI E 4 (fun _ => 0)), (z_46, zI E 4 (fun _ => 0)), (q_47, .inr (2, [.ref z_50, .ref z_51, .int 0, .int 0])), (z_50, zI E 8 (fun _ => 0)), (z_51, zI E 8 (fun _ => 0)), (q_52, .inr (3, [.ref u_53, .int 0])), (u_53, zI E 100 (fun _ => 0))] := hD
  have hP : va_P E.1 vwCl [(o, .inr (6, [.ref q_40, .ref q_47, .null, .null, .null, .null])), (q_40, .inr (1, [.ref z_43, .ref z_44, .ref z_45, .ref z_46, .int 0])), (z_43, zI E 4 (fun _ => 0)), (z_44, zI E 4 (fun _ => 0)), (z_45, zI E 4 (fun _ => 0)), (z_46, zI E 4 (fun _ => 0)), (q_47, .inr (2, [.ref z_50, .ref z_51, .int 0, .int 0])), (z_50, zI E 8 (fun _ => 0)), (z_51, zI E 8 (fun _ => 0)), (q_52, .inr (3, [.ref u_53, .int 0])), (u_53, zI E 100 (fun _ => 0))] H := hP
  have hD : va_D A [(o, .inr (6, [.ref q_40, .ref q_47, .null, .null, .null, .null])), (q_40, .inr (1, [.ref z_43, .ref z_44, .ref z_45, .ref z_46, .int 0])), (z_43, zI E 4 (fun _ => 0)), (z_44, zI E 4 (fun _ => 0)), (z_45, zI E 4 (fun _ => 0)), (z_46, zI E 4 (fun _ => 0)), (q_47, .inr (2, [.ref z_50, .ref z_51, .int 0, .int 0])), (z_50, zI E 8 (fun _ => 0)), (z_51, zI E 8 (fun _ => 0)), (q_52, .inr (3, [.ref u_53, .int 0])), (u_53, zI E 100 (fun _ => 0))] := hD
  refine zz_putF C hin hK hP hD hS fl_Sp_26 (fun q h => by cases h; rfl) 0 rfl rfl rfl (Nat.le_of_ble_eq_true rfl) d_Sp_init_34 (fun H locs hP hD hS => ?_)
  have hP : va_P E.1 vwCl [(o, .inr (6, [.ref q_40, .ref q_47, .ref q_52, .null, .null, .null])), (q_40, .inr (1, [.ref z_43, .ref z_44, .ref z_45, .ref z_46, .int 0])), (z_43, zI E 4 (fun _ => 0)), (z_44, zI E 4 (fun _ => 0)), (z_45, zI E 4 (fun _ => 0)), (z_46, zI E 4 (fun _ => 0)), (q_47, .inr (2, [.ref z_50, .ref z_51, .int 0, .int 0])), (z_50, zI E 8 (fun _ => 0)), (z_51, zI E 8 (fun _ => 0)), (q_52, .inr (3, [.ref u_53, .int 0])), (u_53, zI E 100 (fun _ => 0))] H := hP
  have hD : va_D A [(o, .inr (6, [.ref q_40, .ref q_47, .ref q_52, .null, .null, .null])), (q_40, .inr (1, [.ref z_43, .ref z_44, .ref z_45, .ref z_46, .int 0])), (z_43, zI E 4 (fun _ => 0)), (z_44, zI E 4 (fun _ => 0)), (z_45, zI E 4 (fun _ => 0)), (z_46, zI E 4 (fun _ => 0)), (q_47, .inr (2, [.ref z_50, .ref z_51, .int 0, .int 0])), (z_50, zI E 8 (fun _ => 0)), (z_51, zI E 8 (fun _ => 0)), (q_52, .inr (3, [.ref u_53, .int 0])), (u_53, zI E 100 (fun _ => 0))] := hD
  refine lv_aload_n hx hb d_Sp_init_37 rfl (lv_at hl 0 rfl) ?_
  refine zz_new C hK hP hD hS hA t_Se cw_Se ct_Se wd_cl_Sp_30 wd_is_Se wd_in_Se (ci := 4) rfl (fs := [.null, .null, .int 0]) (fun j hj => by rcases (show j = 0 ∨ j = 1 ∨ j = 2 by omega) with rfl | rfl | rfl <;> rfl) (Nat.le_of_ble_eq_true rfl) (Nat.le_of_ble_eq_true rfl) d_Sp_init_38 (fun q_56 H hP hD hS => ?_)
  have hP : va_P E.1 vwCl [(o, .inr (6, [.ref q_40, .ref q_47, .ref q_52, .null, .null, .null])), (q_40, .inr (1, [.ref z_43, .ref z_44, .ref z_45, .ref z_46, .int 0])), (z_43, zI E 4 (fun _ => 0)), (z_44, zI E 4 (fun _ => 0)), (z_45, zI E 4 (fun _ => 0)), (z_46, zI E 4 (fun _ => 0)), (q_47, .inr (2, [.ref z_50, .ref z_51, .int 0, .int 0])), (z_50, zI E 8 (fun _ => 0)), (z_51, zI E 8 (fun _ => 0)), (q_52, .inr (3, [.ref u_53, .int 0])), (u_53, zI E 100 (fun _ => 0)), (q_56, .inr (4, [.null, .null, .int 0]))] H := hP
  have hD : va_D A [(o, .inr (6, [.ref q_40, .ref q_47, .ref q_52, .null, .null, .null])), (q_40, .inr (1, [.ref z_43, .ref z_44, .ref z_45, .ref z_46, .int 0])), (z_43, zI E 4 (fun _ => 0)), (z_44, zI E 4 (fun _ => 0)), (z_45, zI E 4 (fun _ => 0)), (z_46, zI E 4 (fun _ => 0)), (q_47, .inr (2, [.ref z_50, .ref z_51, .int 0, .int 0])), (z_50, zI E 8 (fun _ => 0)), (z_51, zI E 8 (fun _ => 0)), (q_52, .inr (3, [.ref u_53, .int 0])), (u_53, zI E 100 (fun _ => 0)), (q_56, .inr (4, [.null, .null, .int 0]))] := hD
  refine lv_dup hx hb d_Sp_init_41 rfl ?_
  refine zz_gov (wr := [(o, .inr (6, [.ref q_40, .ref q_47, .ref q_52, .null, .null, .null])), (q_40, .inr (1, [.ref z_43, .ref z_44, .ref z_45, .ref z_46, .int 0])), (z_43, zI E 4 (fun _ => 0)), (z_44, zI E 4 (fun _ => 0)), (z_45, zI E 4 (fun _ => 0)), (z_46, zI E 4 (fun _ => 0)), (q_47, .inr (2, [.ref z_50, .ref z_51, .int 0, .int 0])), (z_50, zI E 8 (fun _ => 0)), (z_51, zI E 8 (fun _ => 0)), (q_52, .inr (3, [.ref u_53, .int 0])), (u_53, zI E 100 (fun _ => 0))]) [11] [0, 1, 2, 3, 4, 5, 6, 7, 8, 9, 10] rfl rfl (by decide) (by decide) hA hP hD hS (zz_runIN (wc := [(q_56, .inr (4, [.null, .null, .int 0]))]) (As := []) (rest := [.ref q_56, .ref o]) C (c_Se_init l E q_56) ym_Se_init wd_mn_Sp_32 wd_im_Se_init rfl [11] (by decide) rfl hA hK hst hP hD hS rfl hl.1 rfl (Nat.le_of_ble_eq_true rfl) ⟨Nat.le_of_ble_eq_true rfl, Nat.le_of_ble_eq_true rfl⟩ ⟨Nat.le_of_ble_eq_true rfl, Nat.le_of_ble_eq_true rfl⟩ d_Sp_init_42) (fun u_57 H locs hw_Se hP hD hS => ?_)
  have hP : va_P E.1 vwCl [(o, .inr (6, [.ref q_40, .ref q_47, .ref q_52, .null, .null, .null])), (q_40, .inr (1, [.ref z_43, .ref z_44, .ref z_45, .ref z_46, .int 0])), (z_43, zI E 4 (fun _ => 0)), (z_44, zI E 4 (fun _ => 0)), (z_45, zI E 4 (fun _ => 0)), (z_46, zI E 4 (fun _ => 0)), (q_47, .inr (2, [.ref z_50, .ref z_51, .int 0, .int 0])), (z_50, zI E 8 (fun _ => 0)), (z_51, zI E 8 (fun _ => 0)), (q_52, .inr (3, [.ref u_53, .int 0])), (u_53, zI E 100 (fun _ => 0)), (q_56, .inr (4, [.ref u_57.1, .ref u_57.2, .int 0])), (u_57.1, zI E 512 (fun _ => 0)), (u_57.2, zI E 512 (fun _ => 0))] H := hP
  have hD : va_D A [(o, .inr (6, [.ref q_40, .ref q_47, .ref q_52, .null, .null, .null])), (q_40, .inr (1, [.ref z_43, .ref z_44, .ref z_45, .ref z_46, .int 0])), (z_43, zI E 4 (fun _ => 0)), (z_44, zI E 4 (fun _ => 0)), (z_45, zI E 4 (fun _ => 0)), (z_46, zI E 4 (fun _ => 0)), (q_47, .inr (2, [.ref z_50, .ref z_51, .int 0, .int 0])), (z_50, zI E 8 (fun _ => 0)), (z_51, zI E 8 (fun _ => 0)), (q_52, .inr (3, [.ref u_53, .int 0])), (u_53, zI E 100 (fun _ => 0)), (q_56, .inr (4, [.ref u_57.1, .ref u_57.2, .int 0])), (u_57.1, zI E 512 (fun _ => 0)), (u_57.2, zI E 512 (fun _ => 0))] := hD
  obtain ⟨z_59, z_60⟩ := u_57
  have hP : va_P E.1 vwCl [(o, .inr (6, [.ref q_40, .ref q_47, .ref q_52, .null, .null, .null])), (q_40, .inr (1, [.ref z_43, .ref z_44, .ref z_45, .ref z_46, .int 0])), (z_43, zI E 4 (fun _ => 0)), (z_44, zI E 4 (fun _ => 0)), (z_45, zI E 4 (fun _ => 0)), (z_46, zI E 4 (fun _ => 0)), (q_47, .inr (2, [.ref z_50, .ref z_51, .int 0, .int 0])), (z_50, zI E 8 (fun _ => 0)), (z_51, zI E 8 (fun _ => 0)), (q_52, .inr (3, [.ref u_53, .int 0])), (u_53, zI E 100 (fun _ => 0)), (q_56, .inr (4, [.ref z_59, .ref z_60, .int 0])), (z_59, zI E 512 (fun _ => 0)), (z_60, zI E 512 (fun _ => 0))] H := hP
  have hD : va_D A [(o, .inr (6, [.ref q_40, .ref q_47, .ref q_52, .null, .null, .null])), (q_40, .inr (1, [.ref z_43, .ref z_44, .ref z_45, .ref z_46, .int 0])), (z_43, zI E 4 (fun _ => 0)), (z_44, zI E 4 (fun _ => 0)), (z_45, zI E 4 (fun _ => 0)), (z_46, zI E 4 (fun _ => 0)), (q_47, .inr (2, [.ref z_50, .ref z_51, .int 0, .int 0])), (z_50, zI E 8 (fun _ => 0)), (z_51, zI E 8 (fun _ => 0)), (q_52, .inr (3, [.ref u_53, .int 0])), (u_53, zI E 100 (fun _ => 0)), (q_56, .inr (4, [.ref z_59, .ref z_60, .int 0])), (z_59, zI E 512 (fun _ => 0)), (z_60, zI E 512 (fun _ => 0))] := hD
  refine zz_putF C hin hK hP hD hS fl_Sp_33 (fun q h => by cases h; rfl) 0 rfl rfl rfl (Nat.le_of_ble_eq_true rfl) d_Sp_init_45 (fun H locs hP hD hS => ?_)
  have hP : va_P E.1 vwCl [(o, .inr (6, [.ref q_40, .ref q_47, .ref q_52, .ref q_56, .null, .null])), (q_40, .inr (1, [.ref z_43, .ref z_44, .ref z_45, .ref z_46, .int 0])), (z_43, zI E 4 (fun _ => 0)), (z_44, zI E 4 (fun _ => 0)), (z_45, zI E 4 (fun _ => 0)), (z_46, zI E 4 (fun _ => 0)), (q_47, .inr (2, [.ref z_50, .ref z_51, .int 0, .int 0])), (z_50, zI E 8 (fun _ => 0)), (z_51, zI E 8 (fun _ => 0)), (q_52, .inr (3, [.ref u_53, .int 0])), (u_53, zI E 100 (fun _ => 0)), (q_56, .inr (4, [.ref z_59, .ref z_60, .int 0])), (z_59, zI E 512 (fun _ => 0)), (z_60, zI E 512 (fun _ => 0))] H := hP
  have hD : va_D A [(o, .inr (6, [.ref q_40, .ref q_47, .ref q_52, .ref q_56, .null, .null])), (q_40, .inr (1, [.ref z_43, .ref z_44, .ref z_45, .ref z_46, .int 0])), (z_43, zI E 4 (fun _ => 0)), (z_44, zI E 4 (fun _ => 0)), (z_45, zI E 4 (fun _ => 0)), (z_46, zI E 4 (fun _ => 0)), (q_47, .inr (2, [.ref z_50, .ref z_51, .int 0, .int 0])), (z_50, zI E 8 (fun _ => 0)), (z_51, zI E 8 (fun _ => 0)), (q_52, .inr (3, [.ref u_53, .int 0])), (u_53, zI E 100 (fun _ => 0)), (q_56, .inr (4, [.ref z_59, .ref z_60, .int 0])), (z_59, zI E 512 (fun _ => 0)), (z_60, zI E 512 (fun _ => 0))] := hD
  refine lv_aload_n hx hb d_Sp_init_48 rfl (lv_at hl 0 rfl) ?_
  refine zz_new C hK hP hD hS hA t_Fs cw_Fs ct_Fs wd_cl_Sp_37 wd_is_Fs wd_in_Fs (ci := 0) rfl (fs := [.null, .null, .int 0]) (fun j hj => by rcases (show j = 0 ∨ j = 1 ∨ j = 2 by omega) with rfl | rfl | rfl <;> rfl) (Nat.le_of_ble_eq_true rfl) (Nat.le_of_ble_eq_true rfl) d_Sp_init_49 (fun q_61 H hP hD hS => ?_)
  have hP : va_P E.1 vwCl [(o, .inr (6, [.ref q_40, .ref q_47, .ref q_52, .ref q_56, .null, .null])), (q_40, .inr (1, [.ref z_43, .ref z_44, .ref z_45, .ref z_46, .int 0])), (z_43, zI E 4 (fun _ => 0)), (z_44, zI E 4 (fun _ => 0)), (z_45, zI E 4 (fun _ => 0)), (z_46, zI E 4 (fun _ => 0)), (q_47, .inr (2, [.ref z_50, .ref z_51, .int 0, .int 0])), (z_50, zI E 8 (fun _ => 0)), (z_51, zI E 8 (fun _ => 0)), (q_52, .inr (3, [.ref u_53, .int 0])), (u_53, zI E 100 (fun _ => 0)), (q_56, .inr (4, [.ref z_59, .ref z_60, .int 0])), (z_59, zI E 512 (fun _ => 0)), (z_60, zI E 512 (fun _ => 0)), (q_61, .inr (0, [.null, .null, .int 0]))] H := hP
  have hD : va_D A [(o, .inr (6, [.ref q_40, .ref q_47, .ref q_52, .ref q_56, .null, .null])), (q_40, .inr (1, [.ref z_43, .ref z_44, .ref z_45, .ref z_46, .int 0])), (z_43, zI E 4 (fun _ => 0)), (z_44, zI E 4 (fun _ => 0)), (z_45, zI E 4 (fun _ => 0)), (z_46, zI E 4 (fun _ => 0)), (q_47, .inr (2, [.ref z_50, .ref z_51, .int 0, .int 0])), (z_50, zI E 8 (fun _ => 0)), (z_51, zI E 8 (fun _ => 0)), (q_52, .inr (3, [.ref u_53, .int 0])), (u_53, zI E 100 (fun _ => 0)), (q_56, .inr (4, [.ref z_59, .ref z_60, .int 0])), (z_59, zI E 512 (fun _ => 0)), (z_60, zI E 512 (fun _ => 0)), (q_61, .inr (0, [.null, .null, .int 0]))] := hD
  refine lv_dup hx hb d_Sp_init_52 rfl ?_
  refine zz_gov (wr := [(o, .inr (6, [.ref q_40, .ref q_47, .ref q_52, .ref q_56, .null, .null])), (q_40, .inr (1, [.ref z_43, .ref z_44, .ref z_45, .ref z_46, .int 0])), (z_43, zI E 4 (fun _ => 0)), (z_44, zI E 4 (fun _ => 0)), (z_45, zI E 4 (fun _ => 0)), (z_46, zI E 4 (fun _ => 0)), (q_47, .inr (2, [.ref z_50, .ref z_51, .int 0, .int 0])), (z_50, zI E 8 (fun _ => 0)), (z_51, zI E 8 (fun _ => 0)), (q_52, .inr (3, [.ref u_53, .int 0])), (u_53, zI E 100 (fun _ => 0)), (q_56, .inr (4, [.ref z_59, .ref z_60, .int 0])), (z_59, zI E 512 (fun _ => 0)), (z_60, zI E 512 (fun _ => 0))]) [14] [0, 1, 2, 3, 4, 5, 6, 7, 8, 9, 10, 11, 12, 13] rfl rfl (by decide) (by decide) hA hP hD hS (zz_runIN (wc := [(q_61, .inr (0, [.null, .null, .int 0]))]) (As := []) (rest := [.ref q_61, .ref o]) C (c_Fs_init l E q_61) ym_Fs_init wd_mn_Sp_39 wd_im_Fs_init rfl [14] (by decide) rfl hA hK hst hP hD hS rfl hl.1 rfl (Nat.le_of_ble_eq_true rfl) ⟨Nat.le_of_ble_eq_true rfl, Nat.le_of_ble_eq_true rfl⟩ ⟨Nat.le_of_ble_eq_true rfl, Nat.le_of_ble_eq_true rfl⟩ d_Sp_init_53) (fun u_62 H locs hw_Fs hP hD hS => ?_)
  have hP : va_P E.1 vwCl [(o, .inr (6, [.ref q_40, .ref q_47, .ref q_52, .ref q_56, .null, .null])), (q_40, .inr (1, [.ref z_43, .ref z_44, .ref z_45, .ref z_46, .int 0])), (z_43, zI E 4 (fun _ => 0)), (z_44, zI E 4 (fun _ => 0)), (z_45, zI E 4 (fun _ => 0)), (z_46, zI E 4 (fun _ => 0)), (q_47, .inr (2, [.ref z_50, .ref z_51, .int 0, .int 0])), (z_50, zI E 8 (fun _ => 0)), (z_51, zI E 8 (fun _ => 0)), (q_52, .inr (3, [.ref u_53, .int 0])), (u_53, zI E 100 (fun _ => 0)), (q_56, .inr (4, [.ref z_59, .ref z_60, .int 0])), (z_59, zI E 512 (fun _ => 0)), (z_60, zI E 512 (fun _ => 0)), (q_61, .inr (0, [.ref u_62.1, .ref u_62.2, .int 0])), (u_62.1, zI E 8 (fun _ => 0)), (u_62.2, zI E 8 (fun _ => 0))] H := hP
  have hD : va_D A [(o, .inr (6, [.ref q_40, .ref q_47, .ref q_52, .ref q_56, .null, .null])), (q_40, .inr (1, [.ref z_43, .ref z_44, .ref z_45, .ref z_46, .int 0])), (z_43, zI E 4 (fun _ => 0)), (z_44, zI E 4 (fun _ => 0)), (z_45, zI E 4 (fun _ => 0)), (z_46, zI E 4 (fun _ => 0)), (q_47, .inr (2, [.ref z_50, .ref z_51, .int 0, .int 0])), (z_50, zI E 8 (fun _ => 0)), (z_51, zI E 8 (fun _ => 0)), (q_52, .inr (3, [.ref u_53, .int 0])), (u_53, zI E 100 (fun _ => 0)), (q_56, .inr (4, [.ref z_59, .ref z_60, .int 0])), (z_59, zI E 512 (fun _ => 0)), (z_60, zI E 512 (fun _ => 0)), (q_61, .inr (0, [.ref u_62.1, .ref u_62.2, .int 0])), (u_62.1, zI E 8 (fun _ => 0)), (u_62.2, zI E 8 (fun _ => 0))] := hD
  obtain ⟨z_64, z_65⟩ := u_62
  have hP : va_P E.1 vwCl [(o, .inr (6, [.ref q_40, .ref q_47, .ref q_52, .ref q_56, .null, .null])), (q_40, .inr (1, [.ref z_43, .ref z_44, .ref z_45, .ref z_46, .int 0])), (z_43, zI E 4 (fun _ => 0)), (z_44, zI E 4 (fun _ => 0)), (z_45, zI E 4 (fun _ => 0)), (z_46, zI E 4 (fun _ => 0)), (q_47, .inr (2, [.ref z_50, .ref z_51, .int 0, .int 0])), (z_50, zI E 8 (fun _ => 0)), (z_51, zI E 8 (fun _ => 0)), (q_52, .inr (3, [.ref u_53, .int 0])), (u_53, zI E 100 (fun _ => 0)), (q_56, .inr (4, [.ref z_59, .ref z_60, .int 0])), (z_59, zI E 512 (fun _ => 0)), (z_60, zI E 512 (fun _ => 0)), (q_61, .inr (0, [.ref z_64, .ref z_65, .int 0])), (z_64, zI E 8 (fun _ => 0)), (z_65, zI E 8 (fun _ => 0))] H := hP
  have hD : va_D A [(o, .inr (6, [.ref q_40, .ref q_47, .ref q_52, .ref q_56, .null, .null])), (q_40, .inr (1, [.ref z_43, .ref z_44, .ref z_45, .ref z_46, .int 0])), (z_43, zI E 4 (fun _ => 0)), (z_44, zI E 4 (fun _ => 0)), (z_45, zI E 4 (fun _ => 0)), (z_46, zI E 4 (fun _ => 0)), (q_47, .inr (2, [.ref z_50, .ref z_51, .int 0, .int 0])), (z_50, zI E 8 (fun _ => 0)), (z_51, zI E 8 (fun _ => 0)), (q_52, .inr (3, [.ref u_53, .int 0])), (u_53, zI E 100 (fun _ => 0)), (q_56, .inr (4, [.ref z_59, .ref z_60, .int 0])), (z_59, zI E 512 (fun _ => 0)), (z_60, zI E 512 (fun _ => 0)), (q_61, .inr (0, [.ref z_64, .ref z_65, .int 0])), (z_64, zI E 8 (fun _ => 0)), (z_65, zI E 8 (fun _ => 0))] := hD
  refine zz_putF C hin hK hP hD hS fl_Sp_40 (fun q h => by cases h; rfl) 0 rfl rfl rfl (Nat.le_of_ble_eq_true rfl) d_Sp_init_56 (fun H locs hP hD hS => ?_)
  have hP : va_P E.1 vwCl [(o, .inr (6, [.ref q_40, .ref q_47, .ref q_52, .ref q_56, .ref q_61, .null])), (q_40, .inr (1, [.ref z_43, .ref z_44, .ref z_45, .ref z_46, .int 0])), (z_43, zI E 4 (fun _ => 0)), (z_44, zI E 4 (fun _ => 0)), (z_45, zI E 4 (fun _ => 0)), (z_46, zI E 4 (fun _ => 0)), (q_47, .inr (2, [.ref z_50, .ref z_51, .int 0, .int 0])), (z_50, zI E 8 (fun _ => 0)), (z_51, zI E 8 (fun _ => 0)), (q_52, .inr (3, [.ref u_53, .int 0])), (u_53, zI E 100 (fun _ => 0)), (q_56, .inr (4, [.ref z_59, .ref z_60, .int 0])), (z_59, zI E 512 (fun _ => 0)), (z_60, zI E 512 (fun _ => 0)), (q_61, .inr (0, [.ref z_64, .ref z_65, .int 0])), (z_64, zI E 8 (fun _ => 0)), (z_65, zI E 8 (fun _ => 0))] H := hP
  have hD : va_D A [(o, .inr (6, [.ref q_40, .ref q_47, .ref q_52, .ref q_56, .ref q_61, .null])), (q_40, .inr (1, [.ref z_43, .ref z_44, .ref z_45, .ref z_46, .int 0])), (z_43, zI E 4 (fun _ => 0)), (z_44, zI E 4 (fun _ => 0)), (z_45, zI E 4 (fun _ => 0)), (z_46, zI E 4 (fun _ => 0)), (q_47, .inr (2, [.ref z_50, .ref z_51, .int 0, .int 0])), (z_50, zI E 8 (fun _ => 0)), (z_51, zI E 8 (fun _ => 0)), (q_52, .inr (3, [.ref u_53, .int 0])), (u_53, zI E 100 (fun _ => 0)), (q_56, .inr (4, [.ref z_59, .ref z_60, .int 0])), (z_59, zI E 512 (fun _ => 0)), (z_60, zI E 512 (fun _ => 0)), (q_61, .inr (0, [.ref z_64, .ref z_65, .int 0])), (z_64, zI E 8 (fun _ => 0)), (z_65, zI E 8 (fun _ => 0))] := hD
  refine lv_aload_n hx hb d_Sp_init_59 rfl (lv_at hl 0 rfl) ?_
  refine zz_new C hK hP hD hS hA t_Tw cw_Tw ct_Tw wd_cl_Sp_44 wd_is_Tw wd_in_Tw (ci := 5) rfl (fs := [.null, .null, .int 0, .int 0]) (fun j hj => by rcases (show j = 0 ∨ j = 1 ∨ j = 2 ∨ j = 3 by omega) with rfl | rfl | rfl | rfl <;> rfl) (Nat.le_of_ble_eq_true rfl) (Nat.le_of_ble_eq_true rfl) d_Sp_init_60 (fun q_66 H hP hD hS => ?_)
  have hP : va_P E.1 vwCl [(o, .inr (6, [.ref q_40, .ref q_47, .ref q_52, .ref q_56, .ref q_61, .null])), (q_40, .inr (1, [.ref z_43, .ref z_44, .ref z_45, .ref z_46, .int 0])), (z_43, zI E 4 (fun _ => 0)), (z_44, zI E 4 (fun _ => 0)), (z_45, zI E 4 (fun _ => 0)), (z_46, zI E 4 (fun _ => 0)), (q_47, .inr (2, [.ref z_50, .ref z_51, .int 0, .int 0])), (z_50, zI E 8 (fun _ => 0)), (z_51, zI E 8 (fun _ => 0)), (q_52, .inr (3, [.ref u_53, .int 0])), (u_53, zI E 100 (fun _ => 0)), (q_56, .inr (4, [.ref z_59, .ref z_60, .int 0])), (z_59, zI E 512 (fun _ => 0)), (z_60, zI E 512 (fun _ => 0)), (q_61, .inr (0, [.ref z_64, .ref z_65, .int 0])), (z_64, zI E 8 (fun _ => 0)), (z_65, zI E 8 (fun _ => 0)), (q_66, .inr (5, [.null, .null, .int 0, .int 0]))] H := hP
  have hD : va_D A [(o, .inr (6, [.ref q_40, .ref q_47, .ref q_52, .ref q_56, .ref q_61, .null])), (q_40, .inr (1, [.ref z_43, .ref z_44, .ref z_45, .ref z_46, .int 0])), (z_43, zI E 4 (fun _ => 0)), (z_44, zI E 4 (fun _ => 0)), (z_45, zI E 4 (fun _ => 0)), (z_46, zI E 4 (fun _ => 0)), (q_47, .inr (2, [.ref z_50, .ref z_51, .int 0, .int 0])), (z_50, zI E 8 (fun _ => 0)), (z_51, zI E 8 (fun _ => 0)), (q_52, .inr (3, [.ref u_53, .int 0])), (u_53, zI E 100 (fun _ => 0)), (q_56, .inr (4, [.ref z_59, .ref z_60, .int 0])), (z_59, zI E 512 (fun _ => 0)), (z_60, zI E 512 (fun _ => 0)), (q_61, .inr (0, [.ref z_64, .ref z_65, .int 0])), (z_64, zI E 8 (fun _ => 0)), (z_65, zI E 8 (fun _ => 0)), (q_66, .inr (5, [.null, .null, .int 0, .int 0]))] := hD
  refine lv_dup hx hb d_Sp_init_63 rfl ?_
  refine zz_gov (wr := [(o, .inr (6, [.ref q_40, .ref q_47, .ref q_52, .ref q_56, .ref q_61, .null])), (q_40, .inr (1, [.ref z_43, .ref z_44, .ref z_45, .ref z_46, .int 0])), (z_43, zI E 4 (fun _ => 0)), (z_44, zI E 4 (fun _ => 0)), (z_45, zI E 4 (fun _ => 0)), (z_46, zI E 4 (fun _ => 0)), (q_47, .inr (2, [.ref z_50, .ref z_51, .int 0, .int 0])), (z_50, zI E 8 (fun _ => 0)), (z_51, zI E 8 (fun _ => 0)), (q_52, .inr (3, [.ref u_53, .int 0])), (u_53, zI E 100 (fun _ => 0)), (q_56, .inr (4, [.ref z_59, .ref z_60, .int 0])), (z_59, zI E 512 (fun _ => 0)), (z_60, zI E 512 (fun _ => 0)), (q_61, .inr (0, [.ref z_64, .ref z_65, .int 0])), (z_64, zI E 8 (fun _ => 0)), (z_65, zI E 8 (fun _ => 0))]) [17] [0, 1, 2, 3, 4, 5, 6, 7, 8, 9, 10, 11, 12, 13, 14, 15, 16] rfl rfl (by decide) (by decide) hA hP hD hS (zz_runI (wc := [(q_66, .inr (5, [.null, .null, .int 0, .int 0]))]) (As := []) (rest := [.ref q_66, .ref o]) C (c_Tw_init l E q_66) ym_Tw_init wd_ml_Sp_46 wd_im_Tw_init rfl [17] (by decide) rfl hA hK hst hP hD hS rfl hl.1 rfl (Nat.le_of_ble_eq_true rfl) ⟨Nat.le_of_ble_eq_true rfl, Nat.le_of_ble_eq_true rfl⟩ ⟨Nat.le_of_ble_eq_true rfl, Nat.le_of_ble_eq_true rfl⟩ d_Sp_init_64) (fun u_67 H locs hw_Tw hP hD hS => ?_)
  have hP : va_P E.1 vwCl [(o, .inr (6, [.ref q_40, .ref q_47, .ref q_52, .ref q_56, .ref q_61, .null])), (q_40, .inr (1, [.ref z_43, .ref z_44, .ref z_45, .ref z_46, .int 0])), (z_43, zI E 4 (fun _ => 0)), (z_44, zI E 4 (fun _ => 0)), (z_45, zI E 4 (fun _ => 0)), (z_46, zI E 4 (fun _ => 0)), (q_47, .inr (2, [.ref z_50, .ref z_51, .int 0, .int 0])), (z_50, zI E 8 (fun _ => 0)), (z_51, zI E 8 (fun _ => 0)), (q_52, .inr (3, [.ref u_53, .int 0])), (u_53, zI E 100 (fun _ => 0)), (q_56, .inr (4, [.ref z_59, .ref z_60, .int 0])), (z_59, zI E 512 (fun _ => 0)), (z_60, zI E 512 (fun _ => 0)), (q_61, .inr (0, [.ref z_64, .ref z_65, .int 0])), (z_64, zI E 8 (fun _ => 0)), (z_65, zI E 8 (fun _ => 0)), (q_66, .inr (5, [.ref u_67.1, .ref u_67.2.1, .int 3, .int 0])), (u_67.1, zL E 41 u_67.2.2.1), (u_67.2.1, zI E 41 u_67.2.2.2)] H := hP
  have hD : va_D A [(o, .inr (6, [.ref q_40, .ref q_47, .ref q_52, .ref q_56, .ref q_61, .null])), (q_40, .inr (1, [.ref z_43, .ref z_44, .ref z_45, .ref z_46, .int 0])), (z_43, zI E 4 (fun _ => 0)), (z_44, zI E 4 (fun _ => 0)), (z_45, zI E 4 (fun _ => 0)), (z_46, zI E 4 (fun _ => 0)), (q_47, .inr (2, [.ref z_50, .ref z_51, .int 0, .int 0])), (z_50, zI E 8 (fun _ => 0)), (z_51, zI E 8 (fun _ => 0)), (q_52, .inr (3, [.ref u_53, .int 0])), (u_53, zI E 100 (fun _ => 0)), (q_56, .inr (4, [.ref z_59, .ref z_60, .int 0])), (z_59, zI E 512 (fun _ => 0)), (z_60, zI E 512 (fun _ => 0)), (q_61, .inr (0, [.ref z_64, .ref z_65, .int 0])), (z_64, zI E 8 (fun _ => 0)), (z_65, zI E 8 (fun _ => 0)), (q_66, .inr (5, [.ref u_67.1, .ref u_67.2.1, .int 3, .int 0])), (u_67.1, zL E 41 u_67.2.2.1), (u_67.2.1, zI E 41 u_67.2.2.2)] := hD
  obtain ⟨z_69, z_70, z_71, z_72⟩ := u_67
  have hP : va_P E.1 vwCl [(o, .inr (6, [.ref q_40, .ref q_47, .ref q_52, .ref q_56, .ref q_61, .null])), (q_40, .inr (1, [.ref z_43, .ref z_44, .ref z_45, .ref z_46, .int 0])), (z_43, zI E 4 (fun _ => 0)), (z_44, zI E 4 (fun _ => 0)), (z_45, zI E 4 (fun _ => 0)), (z_46, zI E 4 (fun _ => 0)), (q_47, .inr (2, [.ref z_50, .ref z_51, .int 0, .int 0])), (z_50, zI E 8 (fun _ => 0)), (z_51, zI E 8 (fun _ => 0)), (q_52, .inr (3, [.ref u_53, .int 0])), (u_53, zI E 100 (fun _ => 0)), (q_56, .inr (4, [.ref z_59, .ref z_60, .int 0])), (z_59, zI E 512 (fun _ => 0)), (z_60, zI E 512 (fun _ => 0)), (q_61, .inr (0, [.ref z_64, .ref z_65, .int 0])), (z_64, zI E 8 (fun _ => 0)), (z_65, zI E 8 (fun _ => 0)), (q_66, .inr (5, [.ref z_69, .ref z_70, .int 3, .int 0])), (z_69, zL E 41 z_71), (z_70, zI E 41 z_72)] H := hP
  have hD : va_D A [(o, .inr (6, [.ref q_40, .ref q_47, .ref q_52, .ref q_56, .ref q_61, .null])), (q_40, .inr (1, [.ref z_43, .ref z_44, .ref z_45, .ref z_46, .int 0])), (z_43, zI E 4 (fun _ => 0)), (z_44, zI E 4 (fun _ => 0)), (z_45, zI E 4 (fun _ => 0)), (z_46, zI E 4 (fun _ => 0)), (q_47, .inr (2, [.ref z_50, .ref z_51, .int 0, .int 0])), (z_50, zI E 8 (fun _ => 0)), (z_51, zI E 8 (fun _ => 0)), (q_52, .inr (3, [.ref u_53, .int 0])), (u_53, zI E 100 (fun _ => 0)), (q_56, .inr (4, [.ref z_59, .ref z_60, .int 0])), (z_59, zI E 512 (fun _ => 0)), (z_60, zI E 512 (fun _ => 0)), (q_61, .inr (0, [.ref z_64, .ref z_65, .int 0])), (z_64, zI E 8 (fun _ => 0)), (z_65, zI E 8 (fun _ => 0)), (q_66, .inr (5, [.ref z_69, .ref z_70, .int 3, .int 0])), (z_69, zL E 41 z_71), (z_70, zI E 41 z_72)] := hD
  refine zz_putF C hin hK hP hD hS fl_Sp_47 (fun q h => by cases h; rfl) 0 rfl rfl rfl (Nat.le_of_ble_eq_true rfl) d_Sp_init_67 (fun H locs hP hD hS => ?_)
  have hP : va_P E.1 vwCl [(o, .inr (6, [.ref q_40, .ref q_47, .ref q_52, .ref q_56, .ref q_61, .ref q_66])), (q_40, .inr (1, [.ref z_43, .ref z_44, .ref z_45, .ref z_46, .int 0])), (z_43, zI E 4 (fun _ => 0)), (z_44, zI E 4 (fun _ => 0)), (z_45, zI E 4 (fun _ => 0)), (z_46, zI E 4 (fun _ => 0)), (q_47, .inr (2, [.ref z_50, .ref z_51, .int 0, .int 0])), (z_50, zI E 8 (fun _ => 0)), (z_51, zI E 8 (fun _ => 0)), (q_52, .inr (3, [.ref u_53, .int 0])), (u_53, zI E 100 (fun _ => 0)), (q_56, .inr (4, [.ref z_59, .ref z_60, .int 0])), (z_59, zI E 512 (fun _ => 0)), (z_60, zI E 512 (fun _ => 0)), (q_61, .inr (0, [.ref z_64, .ref z_65, .int 0])), (z_64, zI E 8 (fun _ => 0)), (z_65, zI E 8 (fun _ => 0)), (q_66, .inr (5, [.ref z_69, .ref z_70, .int 3, .int 0])), (z_69, zL E 41 z_71), (z_70, zI E 41 z_72)] H := hP
  have hD : va_D A [(o, .inr (6, [.ref q_40, .ref q_47, .ref q_52, .ref q_56, .ref q_61, .ref q_66])), (q_40, .inr (1, [.ref z_43, .ref z_44, .ref z_45, .ref z_46, .int 0])), (z_43, zI E 4 (fun _ => 0)), (z_44, zI E 4 (fun _ => 0)), (z_45, zI E 4 (fun _ => 0)), (z_46, zI E 4 (fun _ => 0)), (q_47, .inr (2, [.ref z_50, .ref z_51, .int 0, .int 0])), (z_50, zI E 8 (fun _ => 0)), (z_51, zI E 8 (fun _ => 0)), (q_52, .inr (3, [.ref u_53, .int 0])), (u_53, zI E 100 (fun _ => 0)), (q_56, .inr (4, [.ref z_59, .ref z_60, .int 0])), (z_59, zI E 512 (fun _ => 0)), (z_60, zI E 512 (fun _ => 0)), (q_61, .inr (0, [.ref z_64, .ref z_65, .int 0])), (z_64, zI E 8 (fun _ => 0)), (z_65, zI E 8 (fun _ => 0)), (q_66, .inr (5, [.ref z_69, .ref z_70, .int 3, .int 0])), (z_69, zL E 41 z_71), (z_70, zI E 41 z_72)] := hD
  exact zz_retv C hS (q_40, z_43, z_44, z_45, z_46, q_47, z_50, z_51, q_52, u_53, q_56, z_59, z_60, q_61, z_64, z_65, q_66, z_69, z_70, z_71, z_72) (hw_Tw) hP hD d_Sp_init_70
