set_option maxHeartbeats 4000000 in
set_option maxRecDepth 100000 in
theorem c_Tw_threePegMoves (l : Launch) (E : zG) (n : Nat) (hn : n < 63) : zMet l y_Tw_threePegMoves b_Tw_threePegMoves 1 (some .long) 0 0 0 0 E [.int (nI n)] [] (zQl E (S := Unit) (fun r _ => r = lN (2 ^ n - 1)) (fun _ => [])) := by
  refine zz_met (by decide +kernel) (Nat.le_of_ble_eq_true rfl) ?_
  intro p e s m below meth c A ls C hin hA hK hst hP hD hl
  obtain ⟨hx, hb, hr, hml, hown, hts, hlk⟩ := id C
  have hS : va_S A s.heap s.heap [] := va_S.rf
  have hl : lv_has ls 1 [(0, .int (nI n))] := hl
  refine lv_lconst (v := 1) hx hb d_Tw_threePegMoves_0 (by decide) ?_
  refine lv_iload_n hx hb d_Tw_threePegMoves_1 rfl (lv_at hl 0 rfl) ?_
  refine lv_lshl (v := 1 <<< ((nI n).toInt64 &&& 63)) hx hb d_Tw_threePegMoves_2 (rfl) ?_
  refine lv_lconst (v := 1) hx hb d_Tw_threePegMoves_3 (by decide) ?_
  refine lv_lsub hx hb d_Tw_threePegMoves_4 ?_
  exact zz_retl C hS () (tw_th n hn) hP hD d_Tw_threePegMoves_5

set_option maxHeartbeats 4000000 in
set_option maxRecDepth 100000 in
theorem c_Tw_set (l : Launch) (E : zG) (h0 e1 e2 : Nat) (f4 : Nat → Int64) (fo : Nat → Int32) (pg ds x y : Int32) : zMet l y_Tw_set b_Tw_set 3 (some .boolean) 0 0 0 0 E [.ref h0, .int x, .int y] [(h0, .inr (5, [.ref e1, .ref e2, .int pg, .int ds])), (e1, zL E 41 f4), (e2, zI E 41 fo)] (zQi E (S := Int32 × Int32) (fun r u => (¬ x < 3 ∧ ¬ 4 < x ∧ ¬ y < 0 ∧ y ≤ 40 → r = 1 ∧ u = (x, y)) ∧ (¬ (¬ x < 3 ∧ ¬ 4 < x ∧ ¬ y < 0 ∧ y ≤ 40) → r = 0 ∧ u = (pg, ds))) (fun u => [(h0, .inr (5, [.ref e1, .ref e2, .int u.1, .int u.2])), (e1, zL E 41 f4), (e2, zI E 41 fo)])) := by
  refine zz_met (by decide +kernel) (Nat.le_of_ble_eq_true rfl) ?_
  intro p e s m below meth c A ls C hin hA hK hst hP hD hl
  obtain ⟨hx, hb, hr, hml, hown, hts, hlk⟩ := id C
  have hS : va_S A s.heap s.heap [] := va_S.rf
  have hl : lv_has ls 3 [(0, .ref h0), (1, .int x), (2, .int y)] := hl
  refine lv_iload_n hx hb d_Tw_set_0 rfl (lv_at hl 1 rfl) ?_
  refine lv_iconst (v := 3) hx hb d_Tw_set_1 (by decide) ?_
  refine lv_icmp_lt (tgt := 20) hx hb d_Tw_set_2 (by decide) (fun c_1 => ?_) (fun c_1 => ?_)
  · refine lv_iconst (v := 0) hx hb d_Tw_set_20 (by decide) ?_
    exact zz_reti C (rfl) hS (pg, ds) (⟨fun h => absurd h (by intro h; exact h.1 c_1), fun _ => ⟨rfl, rfl⟩⟩) hP hD d_Tw_set_21
  · refine lv_iload_n hx hb d_Tw_set_5 rfl (lv_at hl 1 rfl) ?_
    refine lv_iconst (v := 4) hx hb d_Tw_set_6 (by decide) ?_
    refine lv_icmp_gt (tgt := 20) hx hb d_Tw_set_7 (by decide) (fun c_2 => ?_) (fun c_2 => ?_)
    · refine lv_iconst (v := 0) hx hb d_Tw_set_20 (by decide) ?_
      exact zz_reti C (rfl) hS (pg, ds) (⟨fun h => absurd h (by intro h; exact h.2.1 c_2), fun _ => ⟨rfl, rfl⟩⟩) hP hD d_Tw_set_21
    · refine lv_iload_n hx hb d_Tw_set_10 rfl (lv_at hl 2 rfl) ?_
      refine lv_if_lt (tgt := 20) hx hb d_Tw_set_11 (by decide) (fun c_3 => ?_) (fun c_3 => ?_)
      · refine lv_iconst (v := 0) hx hb d_Tw_set_20 (by decide) ?_
        exact zz_reti C (rfl) hS (pg, ds) (⟨fun h => absurd h (by intro h; exact h.2.2.1 c_3), fun _ => ⟨rfl, rfl⟩⟩) hP hD d_Tw_set_21
      · refine lv_iload_n hx hb d_Tw_set_14 rfl (lv_at hl 2 rfl) ?_
        refine lv_bipush (v := 40) hx hb d_Tw_set_15 (by decide) ?_
        refine lv_icmp_le (tgt := 22) hx hb d_Tw_set_17 (by decide) (fun c_4 => ?_) (fun c_4 => ?_)
        · refine lv_aload_n hx hb d_Tw_set_22 rfl (lv_at hl 0 rfl) ?_
          refine lv_iload_n hx hb d_Tw_set_23 rfl (lv_at hl 1 rfl) ?_
          refine zz_put C hK hP hD hS fl_Tw_19 0 rfl rfl rfl (Nat.le_of_ble_eq_true rfl) d_Tw_set_24 (fun H locs hP hD hS => ?_)
          have hP : va_P E.1 vwCl [(h0, .inr (5, [.ref e1, .ref e2, .int x, .int ds])), (e1, zL E 41 f4), (e2, zI E 41 fo)] H := hP
          have hD : va_D A [(h0, .inr (5, [.ref e1, .ref e2, .int x, .int ds])), (e1, zL E 41 f4), (e2, zI E 41 fo)] := hD
          refine lv_aload_n hx hb d_Tw_set_27 rfl (lv_at hl 0 rfl) ?_
          refine lv_iload_n hx hb d_Tw_set_28 rfl (lv_at hl 2 rfl) ?_
          refine zz_put C hK hP hD hS fl_Tw_33 0 rfl rfl rfl (Nat.le_of_ble_eq_true rfl) d_Tw_set_29 (fun H locs hP hD hS => ?_)
          have hP : va_P E.1 vwCl [(h0, .inr (5, [.ref e1, .ref e2, .int x, .int y])), (e1, zL E 41 f4), (e2, zI E 41 fo)] H := hP
          have hD : va_D A [(h0, .inr (5, [.ref e1, .ref e2, .int x, .int y])), (e1, zL E 41 f4), (e2, zI E 41 fo)] := hD
          refine lv_iconst (v := 1) hx hb d_Tw_set_32 (by decide) ?_
          exact zz_reti C (rfl) hS (x, y) (⟨fun _ => ⟨rfl, rfl⟩, fun h => absurd ⟨c_1, c_2, c_3, c_4⟩ h⟩) hP hD d_Tw_set_33
        · refine lv_iconst (v := 0) hx hb d_Tw_set_20 (by decide) ?_
          exact zz_reti C (rfl) hS (pg, ds) (⟨fun h => absurd h (by intro h; exact c_4 h.2.2.2), fun _ => ⟨rfl, rfl⟩⟩) hP hD d_Tw_set_21

set_option maxHeartbeats 4000000 in
set_option maxRecDepth 100000 in
theorem c_Tw_moves (l : Launch) (E : zG) (h0 e1 e2 pg ds : Nat) (f4 : Nat → Int64) (fo : Nat → Int32) (hp : pg = 3 ∨ pg = 4) (hd : ds ≤ 40) (hT : ∀ j, j < 41 → f4 j = lN (tw_F j) ∧ fo j = nI (tw_K j)) : zMet l y_Tw_moves b_Tw_moves 1 (some .long) 1 20 0 0 E [.ref h0] [(h0, .inr (5, [.ref e1, .ref e2, .int (nI pg), .int (nI ds)])), (e1, zL E 41 f4), (e2, zI E 41 fo)] (zQl E (S := Unit) (fun r _ => r = lN (tw_M pg ds)) (fun _ => [(h0, .inr (5, [.ref e1, .ref e2, .int (nI pg), .int (nI ds)])), (e1, zL E 41 f4), (e2, zI E 41 fo)])) := by
  refine zz_met (by decide +kernel) (Nat.le_of_ble_eq_true rfl) ?_
  intro p e s m below meth c A ls C hin hA hK hst hP hD hl
  obtain ⟨hx, hb, hr, hml, hown, hts, hlk⟩ := id C
  have hS : va_S A s.heap s.heap [] := va_S.rf
  have hl : lv_has ls 1 [(0, .ref h0)] := hl
  refine lv_aload_n hx hb d_Tw_moves_0 rfl (lv_at hl 0 rfl) ?_
  refine zz_get C hK hP fl_Tw_19 0 rfl rfl d_Tw_moves_1 ?_
  refine lv_iconst (v := 3) hx hb d_Tw_moves_4 (by decide) ?_
  refine lv_icmp_ne (tgt := 18) hx hb d_Tw_moves_5 (by decide) (fun c_5 => ?_) (fun c_5 => ?_)
  · have h3 : ¬ pg = 3 := fun z => c_5 (by rw [z]; rfl)
    refine lv_aload_n hx hb d_Tw_moves_18 rfl (lv_at hl 0 rfl) ?_
    refine zz_get C hK hP fl_Tw_11 0 rfl rfl d_Tw_moves_19 ?_
    refine lv_aload_n hx hb d_Tw_moves_22 rfl (lv_at hl 0 rfl) ?_
    refine zz_get C hK hP fl_Tw_33 0 rfl rfl d_Tw_moves_23 ?_
    refine zz_laldN C hK hP 1 rfl (j := ds) (by omega) (by omega) d_Tw_moves_26 ?_
    exact zz_retl C hS () (by unfold tw_M; rw [if_neg h3]; exact (hT ds (by omega)).1) hP hD d_Tw_moves_27
  · have h3 : pg = 3 := by
      rcases hp with q | q
      · exact q
      · exact absurd (by rw [q] at c_5; exact c_5) (by decide : ¬ nI 4 = 3)
    refine lv_aload_n hx hb d_Tw_moves_8 rfl (lv_at hl 0 rfl) ?_
    refine zz_get C hK hP fl_Tw_33 0 rfl rfl d_Tw_moves_9 ?_
    refine zz_gol (wr := [(h0, .inr (5, [.ref e1, .ref e2, .int (nI pg), .int (nI ds)])), (e1, zL E 41 f4), (e2, zI E 41 fo)]) [] [0, 1, 2] rfl rfl (by decide) (by decide) hA hP hD hS (zz_runS (wc := []) (As := [.int (nI ds)]) (rest := []) C (c_Tw_threePegMoves l E ds (by omega)) ym_Tw_threePegMoves wd_ml_Tw_29 wd_st_Tw_threePegMoves [] (by decide) rfl hA hK hst hP hD hS rfl hl.1 rfl (Nat.le_of_ble_eq_true rfl) ⟨Nat.le_of_ble_eq_true rfl, Nat.le_of_ble_eq_true rfl⟩ ⟨Nat.le_of_ble_eq_true rfl, Nat.le_of_ble_eq_true rfl⟩ d_Tw_moves_12) (fun r_6 u H locs hw hP hD hS => ?_)
    have hP : va_P E.1 vwCl [(h0, .inr (5, [.ref e1, .ref e2, .int (nI pg), .int (nI ds)])), (e1, zL E 41 f4), (e2, zI E 41 fo)] H := hP
    have hD : va_D A [(h0, .inr (5, [.ref e1, .ref e2, .int (nI pg), .int (nI ds)])), (e1, zL E 41 f4), (e2, zI E 41 fo)] := hD
    refine lv_goto (tgt := 27) hx hb d_Tw_moves_15 (by decide) ?_
    exact zz_retl C hS () (by unfold tw_M; rw [if_pos h3]; exact hw) hP hD d_Tw_moves_27

set_option maxHeartbeats 4000000 in
set_option maxRecDepth 100000 in
theorem lp_Tw_init1 {p : Program} {l : Launch} {e : Env} {s : State} {m : MethodId} {below : List Frame} {meth : Method} {c : Code} {A : Nat → Prop}  {E : zG} {h0 e1 e2 n : Nat} (hn : n < 41) (hn1 : 1 ≤ n) (C : cx p s m #[.ref h0] meth c b_Tw_init 5 y_Tw_init.cls none) (hA : ∀ q, s.heap.size ≤ q → A q) (hK : kt E s) (hst : stt A s s.heap) :
    ∀ (f k : Nat) (g4 : Nat → Int64) (go : Nat → Int32) (_ : k + f = n) (_ : ∀ j, j < n → g4 j = lN (tw_F j) ∧ go j = nI (tw_K j)) (_ : ∀ j, n < j → j < 41 → go j = 0) (_ : g4 n = lN (tw_in n k).1 ∧ go n = nI (tw_in n k).2) (kk : ∀ (g4 : Nat → Int64) (go : Nat → Int32) (H : Heap) (locs : List Loc) (ls : Array Slot), (∀ j, j < n + 1 → g4 j = lN (tw_F j) ∧ go j = nI (tw_K j)) → (∀ j, n < j → j < 41 → go j = 0) → va_P E.1 vwCl [(h0, .inr (5, [.ref e1, .ref e2, .int 3, .int 0])), (e1, zL E 41 g4), (e2, zI E 41 go)] H → va_D A [(h0, .inr (5, [.ref e1, .ref e2, .int 3, .int 0])), (e1, zL E 41 g4), (e2, zI E 41 go)] → va_S A s.heap H locs → lv_has ls 5 [(0, .ref h0), (1, .int (nI n))] → W p l e (zR 1 20 2 82) s m #[.ref h0] below meth c H locs 2 82 (MQ below ((zQv E (S := Nat × Nat × (Nat → Int64) × (Nat → Int32)) (fun u => ∀ j, j < 41 → u.2.2.1 j = lN (tw_F j) ∧ u.2.2.2 j = nI (tw_K j)) (fun u => [(h0, .inr (5, [.ref u.1, .ref u.2.1, .int 3, .int 0])), (u.1, zL E 41 u.2.2.1), (u.2.1, zI E 41 u.2.2.2)])) A) #[.ref h0] s 2 82 A) (F0 m 98 ls [])) (H : Heap) (locs : List Loc) (ls : Array Slot), va_P E.1 vwCl [(h0, .inr (5, [.ref e1, .ref e2, .int 3, .int 0])), (e1, zL E 41 g4), (e2, zI E 41 go)] H → va_D A [(h0, .inr (5, [.ref e1, .ref e2, .int 3, .int 0])), (e1, zL E 41 g4), (e2, zI E 41 go)] → va_S A s.heap H locs → lv_has ls 5 [(0, .ref h0), (1, .int (nI n)), (2, .int (nI k))] → W p l e (zR 1 20 2 82) s m #[.ref h0] below meth c H locs 2 82 (MQ below ((zQv E (S := Nat × Nat × (Nat → Int64) × (Nat → Int32)) (fun u => ∀ j, j < 41 → u.2.2.1 j = lN (tw_F j) ∧ u.2.2.2 j = nI (tw_K j)) (fun u => [(h0, .inr (5, [.ref u.1, .ref u.2.1, .int 3, .int 0])), (u.1, zL E 41 u.2.2.1), (u.2.1, zI E 41 u.2.2.2)])) A) #[.ref h0] s 2 82 A) (F0 m 44 ls []) := by
  obtain ⟨hx, hb, hr, hml, hown, hts, hlk⟩ := id C
  intro f
  induction f with
  | zero =>
    intro k g4 go hk h1 h2 h3 kk H locs ls hP hD hS hl
    have hk : k = n := by omega
    subst hk
    refine lv_iload_n hx hb d_Tw_init_44 rfl (lv_at hl 2 rfl) ?_
    refine lv_iload_n hx hb d_Tw_init_45 rfl (lv_at hl 1 rfl) ?_
    refine lv_icmp_ge (tgt := 98) hx hb d_Tw_init_46 (by decide) (fun c_7 => ?_) (fun c_7 => ?_)
    · exact kk g4 go _ _ ls (lt_s h1 (by rw [h3.1, h3.2, tw_in_ok k hn hn1]; exact ⟨rfl, rfl⟩)) h2 hP hD hS (lv_sub hl [0, 1] rfl)
    · exact absurd (nI_le (Nat.le_refl _) (by omega)) c_7
  | succ f ih =>
    intro k g4 go hk h1 h2 h3 kk H locs ls hP hD hS hl
    have hkn : k < n := by omega
    have hc := tw_c_lt n hn k (by omega)
    have hm := tw_in_lt n hn k (by omega)
    refine lv_iload_n hx hb d_Tw_init_44 rfl (lv_at hl 2 rfl) ?_
    refine lv_iload_n hx hb d_Tw_init_45 rfl (lv_at hl 1 rfl) ?_
    refine lv_icmp_ge (tgt := 98) hx hb d_Tw_init_46 (by decide) (fun c_8 => ?_) (fun c_8 => ?_)
    · exact absurd c_8 (nI_ge hkn (by omega))
    · refine lv_ldc2 (v := 2) hx hb hown (hts _ wk_Tw_27) d_Tw_init_49 ?_
      refine lv_aload_n hx hb d_Tw_init_52 rfl (lv_at hl 0 rfl) ?_
      refine zz_get C hK hP fl_Tw_11 0 rfl rfl d_Tw_init_53 ?_
      refine lv_iload_n hx hb d_Tw_init_56 rfl (lv_at hl 2 rfl) ?_
      refine zz_laldN C hK hP 1 rfl (j := k) (by omega) (by omega) d_Tw_init_57 ?_
      refine lv_lmul hx hb d_Tw_init_58 ?_
      refine zz_eql (y := lN (2 * tw_F k)) (by rw [(h1 k hkn).1]; exact lN_mul 2 _) ?_
      refine lv_iload_n hx hb d_Tw_init_59 rfl (lv_at hl 1 rfl) ?_
      refine lv_iload_n hx hb d_Tw_init_60 rfl (lv_at hl 2 rfl) ?_
      refine lv_isub hx hb d_Tw_init_61 ?_
      refine zz_eqi (y := nI (n - k)) (pk_sub (by omega)) ?_
      refine zz_gol (wr := [(h0, .inr (5, [.ref e1, .ref e2, .int 3, .int 0])), (e1, zL E 41 g4), (e2, zI E 41 go)]) [] [0, 1, 2] rfl rfl (by decide) (by decide) hA hP hD hS (zz_runS (wc := []) (As := [.int (nI (n - k))]) (rest := [.long (lN (2 * tw_F k))]) C (c_Tw_threePegMoves l E (n - k) (by omega)) ym_Tw_threePegMoves wd_ml_Tw_29 wd_st_Tw_threePegMoves [] (by decide) rfl hA hK hst hP hD hS rfl hl.1 rfl (Nat.le_of_ble_eq_true rfl) ⟨Nat.le_of_ble_eq_true rfl, Nat.le_of_ble_eq_true rfl⟩ ⟨Nat.le_of_ble_eq_true rfl, Nat.le_of_ble_eq_true rfl⟩ d_Tw_init_62) (fun r_9 u H locs hw hP hD hS => ?_)
      have hP : va_P E.1 vwCl [(h0, .inr (5, [.ref e1, .ref e2, .int 3, .int 0])), (e1, zL E 41 g4), (e2, zI E 41 go)] H := hP
      have hD : va_D A [(h0, .inr (5, [.ref e1, .ref e2, .int 3, .int 0])), (e1, zL E 41 g4), (e2, zI E 41 go)] := hD
      subst hw
      refine lv_ladd hx hb d_Tw_init_65 ?_
      refine zz_eql (y := lN (2 * tw_F k + (2 ^ (n - k) - 1))) (lN_add _ _) ?_
      refine lv_lstore_n (lv' := [(3, .long (lN (2 * tw_F k + (2 ^ (n - k) - 1)))), (0, .ref h0), (1, .int (nI n)), (2, .int (nI k))]) hx hb d_Tw_init_66 rfl hl (by decide) rfl (fun ls hl => ?_)
      refine lv_lload_n hx hb d_Tw_init_67 rfl (lv_at hl 0 rfl) ?_
      refine lv_aload_n hx hb d_Tw_init_68 rfl (lv_at hl 1 rfl) ?_
      refine zz_get C hK hP fl_Tw_11 0 rfl rfl d_Tw_init_69 ?_
      refine lv_iload_n hx hb d_Tw_init_72 rfl (lv_at hl 2 rfl) ?_
      refine zz_laldN C hK hP 1 rfl (j := n) (by omega) (by omega) d_Tw_init_73 ?_
      refine W.lcmp hx hb d_Tw_init_74 ?_
      refine lv_if_ge (tgt := 92) hx hb d_Tw_init_75 (by decide) (fun c_10 => ?_) (fun c_10 => ?_)
      · have hge : ¬ 2 * tw_F k + (2 ^ (n - k) - 1) < (tw_in n k).1 := fun z => by
          have h9 := (lg_cmp_ge _ _).mp c_10
          rw [h3.1, pk_lLE (by omega) (by omega)] at h9
          omega
        refine lv_iinc (v := nI (k + 1)) (lv' := [(2, .int (nI (k + 1))), (3, .long (lN (2 * tw_F k + (2 ^ (n - k) - 1)))), (0, .ref h0), (1, .int (nI n))]) hx hb d_Tw_init_92 hl (k := 3) rfl (nI_1 _) (by decide) rfl (fun ls hl => ?_)
        refine lv_goto (tgt := 44) hx hb d_Tw_init_95 (by decide) ?_
        exact ih (k + 1) g4 go (by omega) h1 h2 (by rw [tw_in, if_neg hge]; exact h3) kk _ _ ls hP hD hS (lv_sub hl [2, 3, 0] rfl)
      · have hlt : 2 * tw_F k + (2 ^ (n - k) - 1) < (tw_in n k).1 := by
          rcases Nat.lt_or_ge (2 * tw_F k + (2 ^ (n - k) - 1)) (tw_in n k).1 with q | q
          · exact q
          · exact absurd ((lg_cmp_ge _ _).mpr (by rw [h3.1, pk_lLE (by omega) (by omega)]; exact q)) c_10
        refine lv_aload_n hx hb d_Tw_init_78 rfl (lv_at hl 1 rfl) ?_
        refine zz_get C hK hP fl_Tw_11 0 rfl rfl d_Tw_init_79 ?_
        refine lv_iload_n hx hb d_Tw_init_82 rfl (lv_at hl 2 rfl) ?_
        refine lv_lload_n hx hb d_Tw_init_83 rfl (lv_at hl 0 rfl) ?_
        refine zz_lastN C hK hP hD hS 1 rfl (j := n) (by omega) (by omega) d_Tw_init_84 (fun H locs hP hD hS => ?_)
        have hP : va_P E.1 vwCl [(h0, .inr (5, [.ref e1, .ref e2, .int 3, .int 0])), (e1, zL E 41 (vp_updL g4 n (lN (2 * tw_F k + (2 ^ (n - k) - 1))))), (e2, zI E 41 go)] H := hP
        have hD : va_D A [(h0, .inr (5, [.ref e1, .ref e2, .int 3, .int 0])), (e1, zL E 41 (vp_updL g4 n (lN (2 * tw_F k + (2 ^ (n - k) - 1))))), (e2, zI E 41 go)] := hD
        refine lv_aload_n hx hb d_Tw_init_85 rfl (lv_at hl 1 rfl) ?_
        refine zz_get C hK hP fl_Tw_15 0 rfl rfl d_Tw_init_86 ?_
        refine lv_iload_n hx hb d_Tw_init_89 rfl (lv_at hl 2 rfl) ?_
        refine lv_iload_n hx hb d_Tw_init_90 rfl (lv_at hl 3 rfl) ?_
        refine zz_iastN C hK hP hD hS 2 rfl (j := n) (by omega) (by omega) d_Tw_init_91 (fun H locs hP hD hS => ?_)
        have hP : va_P E.1 vwCl [(h0, .inr (5, [.ref e1, .ref e2, .int 3, .int 0])), (e1, zL E 41 (vp_updL g4 n (lN (2 * tw_F k + (2 ^ (n - k) - 1))))), (e2, zI E 41 (upd go n (nI k)))] H := hP
        have hD : va_D A [(h0, .inr (5, [.ref e1, .ref e2, .int 3, .int 0])), (e1, zL E 41 (vp_updL g4 n (lN (2 * tw_F k + (2 ^ (n - k) - 1))))), (e2, zI E 41 (upd go n (nI k)))] := hD
        refine lv_iinc (v := nI (k + 1)) (lv' := [(2, .int (nI (k + 1))), (3, .long (lN (2 * tw_F k + (2 ^ (n - k) - 1)))), (0, .ref h0), (1, .int (nI n))]) hx hb d_Tw_init_92 hl (k := 3) rfl (nI_1 _) (by decide) rfl (fun ls hl => ?_)
        refine lv_goto (tgt := 44) hx hb d_Tw_init_95 (by decide) ?_
        exact ih (k + 1) (vp_updL g4 n (lN (2 * tw_F k + (2 ^ (n - k) - 1)))) (upd go n (nI k)) (by omega) (fun j hj => by rw [pk_uLn (by omega), pk_un (by omega)]; exact h1 j hj) (fun j hj1 hj2 => by rw [pk_un (by omega)]; exact h2 j hj1 hj2) (by rw [tw_in, if_pos hlt, pk_uLs, pk_us]; exact ⟨rfl, rfl⟩) kk _ _ ls hP hD hS (lv_sub hl [2, 3, 0] rfl)

set_option maxHeartbeats 4000000 in
set_option maxRecDepth 100000 in
theorem lp_Tw_init2 {p : Program} {l : Launch} {e : Env} {s : State} {m : MethodId} {below : List Frame} {meth : Method} {c : Code} {A : Nat → Prop}  {E : zG} {h0 e1 e2 : Nat} (C : cx p s m #[.ref h0] meth c b_Tw_init 5 y_Tw_init.cls none) (hA : ∀ q, s.heap.size ≤ q → A q) (hK : kt E s) (hst : stt A s s.heap) :
    ∀ (f n : Nat) (g4 : Nat → Int64) (go : Nat → Int32) (_ : n + f = 41) (_ : 1 ≤ n) (_ : ∀ j, j < n → g4 j = lN (tw_F j) ∧ go j = nI (tw_K j)) (_ : ∀ j, n ≤ j → j < 41 → go j = 0) (H : Heap) (locs : List Loc) (ls : Array Slot), va_P E.1 vwCl [(h0, .inr (5, [.ref e1, .ref e2, .int 3, .int 0])), (e1, zL E 41 g4), (e2, zI E 41 go)] H → va_D A [(h0, .inr (5, [.ref e1, .ref e2, .int 3, .int 0])), (e1, zL E 41 g4), (e2, zI E 41 go)] → va_S A s.heap H locs → lv_has ls 5 [(0, .ref h0), (1, .int (nI n))] → W p l e (zR 1 20 2 82) s m #[.ref h0] below meth c H locs 2 82 (MQ below ((zQv E (S := Nat × Nat × (Nat → Int64) × (Nat → Int32)) (fun u => ∀ j, j < 41 → u.2.2.1 j = lN (tw_F j) ∧ u.2.2.2 j = nI (tw_K j)) (fun u => [(h0, .inr (5, [.ref u.1, .ref u.2.1, .int 3, .int 0])), (u.1, zL E 41 u.2.2.1), (u.2.1, zI E 41 u.2.2.2)])) A) #[.ref h0] s 2 82 A) (F0 m 27 ls []) := by
  obtain ⟨hx, hb, hr, hml, hown, hts, hlk⟩ := id C
  intro f
  induction f with
  | zero =>
    intro n g4 go hn hn1 h1 h2 H locs ls hP hD hS hl
    have hn : n = 41 := by omega
    subst hn
    refine lv_iload_n hx hb d_Tw_init_27 rfl (lv_at hl 1 rfl) ?_
    refine lv_bipush (v := 40) hx hb d_Tw_init_28 (by decide) ?_
    refine lv_icmp_gt (tgt := 104) hx hb d_Tw_init_30 (by decide) (fun c_11 => ?_) (fun c_11 => ?_)
    · exact zz_retv C hS (e1, e2, g4, go) (h1) hP hD d_Tw_init_104
    · exact absurd (by decide : (40 : Int32) < nI 41) c_11
  | succ f ih =>
    intro n g4 go hn hn1 h1 h2 H locs ls hP hD hS hl
    have hn4 : n < 41 := by omega
    refine lv_iload_n hx hb d_Tw_init_27 rfl (lv_at hl 1 rfl) ?_
    refine lv_bipush (v := 40) hx hb d_Tw_init_28 (by decide) ?_
    refine lv_icmp_gt (tgt := 104) hx hb d_Tw_init_30 (by decide) (fun c_12 => ?_) (fun c_12 => ?_)
    · exact absurd (nI_le (b := 40) (by omega) (by decide)) (zz_nle c_12)
    · refine lv_aload_n hx hb d_Tw_init_33 rfl (lv_at hl 0 rfl) ?_
      refine zz_get C hK hP fl_Tw_11 0 rfl rfl d_Tw_init_34 ?_
      refine lv_iload_n hx hb d_Tw_init_37 rfl (lv_at hl 1 rfl) ?_
      refine lv_ldc2 (v := 9223372036854775807) hx hb hown (hts _ wk_Tw_25) d_Tw_init_38 ?_
      refine zz_lastN C hK hP hD hS 1 rfl (j := n) (by omega) (by omega) d_Tw_init_41 (fun H locs hP hD hS => ?_)
      have hP : va_P E.1 vwCl [(h0, .inr (5, [.ref e1, .ref e2, .int 3, .int 0])), (e1, zL E 41 (vp_updL g4 n 9223372036854775807)), (e2, zI E 41 go)] H := hP
      have hD : va_D A [(h0, .inr (5, [.ref e1, .ref e2, .int 3, .int 0])), (e1, zL E 41 (vp_updL g4 n 9223372036854775807)), (e2, zI E 41 go)] := hD
      refine lv_iconst (v := 0) hx hb d_Tw_init_42 (by decide) ?_
      refine lv_istore_n (lv' := [(2, .int 0), (0, .ref h0), (1, .int (nI n))]) hx hb d_Tw_init_43 rfl hl (by decide) rfl (fun ls hl => ?_)
      have hl := lv_sub (l' := [(0, .ref h0), (1, .int (nI n)), (2, .int (nI 0))]) hl [1, 2, 0] (rfl)
      refine lp_Tw_init1 hn4 hn1 C hA hK hst n 0 _ go (by omega) (fun j hj => by rw [pk_uLn (by omega)]; exact h1 j hj) (fun j hj1 hj2 => h2 j (by omega) hj2) ⟨(pk_uLs).trans rfl, h2 n (Nat.le_refl _) hn4⟩ (fun g4 go H locs ls h1 h2 hP hD hS hl => ?_) _ _ ls hP hD hS hl
      refine lv_iinc (v := nI (n + 1)) (lv' := [(1, .int (nI (n + 1))), (0, .ref h0)]) hx hb d_Tw_init_98 hl (k := 1) rfl (nI_1 _) (by decide) rfl (fun ls hl => ?_)
      refine lv_goto (tgt := 27) hx hb d_Tw_init_101 (by decide) ?_
      exact ih (n + 1) g4 go (by omega) (by omega) h1 (fun j hj1 hj2 => h2 j (by omega) hj2) _ _ ls hP hD hS (lv_sub hl [1, 0] rfl)

set_option maxHeartbeats 4000000 in
set_option maxRecDepth 100000 in
theorem c_Tw_init (l : Launch) (E : zG) (h0 : Nat) : zMet l y_Tw_init b_Tw_init 5 none 1 20 2 82 E [.ref h0] [(h0, .inr (5, [.null, .null, .int 0, .int 0]))] (zQv E (S := Nat × Nat × (Nat → Int64) × (Nat → Int32)) (fun u => ∀ j, j < 41 → u.2.2.1 j = lN (tw_F j) ∧ u.2.2.2 j = nI (tw_K j)) (fun u => [(h0, .inr (5, [.ref u.1, .ref u.2.1, .int 3, .int 0])), (u.1, zL E 41 u.2.2.1), (u.2.1, zI E 41 u.2.2.2)])) := by
  refine zz_met (by decide +kernel) (Nat.le_of_ble_eq_true rfl) ?_
  intro p e s m below meth c A ls C hin hA hK hst hP hD hl
  obtain ⟨hx, hb, hr, hml, hown, hts, hlk⟩ := id C
  have hS : va_S A s.heap s.heap [] := va_S.rf
  have hl : lv_has ls 5 [(0, .ref h0)] := hl
  refine lv_aload_n hx hb d_Tw_init_0 rfl (lv_at hl 0 rfl) ?_
  refine zz_oi C wd_ml_Tw_3 wd_im_obj wd_cd_obj hl.1 (Nat.le_of_ble_eq_true rfl) (Nat.le_of_ble_eq_true rfl) d_Tw_init_1 ?_
  refine lv_aload_n hx hb d_Tw_init_4 rfl (lv_at hl 0 rfl) ?_
  refine lv_bipush (v := 41) hx hb d_Tw_init_5 (by decide) ?_
  refine zz_eqi (show (41 : Int32) = nI 41 from rfl) ?_
  refine zz_newL C hK hP hD hS hA (by decide) wd_ac_L (Nat.le_of_ble_eq_true rfl) (Nat.le_of_ble_eq_true rfl) d_Tw_init_7 (fun q_13 H hP hD hS => ?_)
  have hP : va_P E.1 vwCl [(h0, .inr (5, [.null, .null, .int 0, .int 0])), (q_13, zL E 41 (fun _ => 0))] H := hP
  have hD : va_D A [(h0, .inr (5, [.null, .null, .int 0, .int 0])), (q_13, zL E 41 (fun _ => 0))] := hD
  refine zz_putF C hin hK hP hD hS fl_Tw_11 (fun q h => by cases h; rfl) 0 rfl rfl rfl (Nat.le_of_ble_eq_true rfl) d_Tw_init_9 (fun H locs hP hD hS => ?_)
  have hP : va_P E.1 vwCl [(h0, .inr (5, [.ref q_13, .null, .int 0, .int 0])), (q_13, zL E 41 (fun _ => 0))] H := hP
  have hD : va_D A [(h0, .inr (5, [.ref q_13, .null, .int 0, .int 0])), (q_13, zL E 41 (fun _ => 0))] := hD
  refine lv_aload_n hx hb d_Tw_init_12 rfl (lv_at hl 0 rfl) ?_
  refine lv_bipush (v := 41) hx hb d_Tw_init_13 (by decide) ?_
  refine zz_eqi (show (41 : Int32) = nI 41 from rfl) ?_
  refine zz_newI C hK hP hD hS hA (by decide) wd_ac_I (Nat.le_of_ble_eq_true rfl) (Nat.le_of_ble_eq_true rfl) d_Tw_init_15 (fun q_14 H hP hD hS => ?_)
  have hP : va_P E.1 vwCl [(h0, .inr (5, [.ref q_13, .null, .int 0, .int 0])), (q_13, zL E 41 (fun _ => 0)), (q_14, zI E 41 (fun _ => 0))] H := hP
  have hD : va_D A [(h0, .inr (5, [.ref q_13, .null, .int 0, .int 0])), (q_13, zL E 41 (fun _ => 0)), (q_14, zI E 41 (fun _ => 0))] := hD
  refine zz_putF C hin hK hP hD hS fl_Tw_15 (fun q h => by cases h; rfl) 0 rfl rfl rfl (Nat.le_of_ble_eq_true rfl) d_Tw_init_17 (fun H locs hP hD hS => ?_)
  have hP : va_P E.1 vwCl [(h0, .inr (5, [.ref q_13, .ref q_14, .int 0, .int 0])), (q_13, zL E 41 (fun _ => 0)), (q_14, zI E 41 (fun _ => 0))] H := hP
  have hD : va_D A [(h0, .inr (5, [.ref q_13, .ref q_14, .int 0, .int 0])), (q_13, zL E 41 (fun _ => 0)), (q_14, zI E 41 (fun _ => 0))] := hD
  refine lv_aload_n hx hb d_Tw_init_20 rfl (lv_at hl 0 rfl) ?_
  refine lv_iconst (v := 3) hx hb d_Tw_init_21 (by decide) ?_
  refine zz_put C hK hP hD hS fl_Tw_19 0 rfl rfl rfl (Nat.le_of_ble_eq_true rfl) d_Tw_init_22 (fun H locs hP hD hS => ?_)
  have hP : va_P E.1 vwCl [(h0, .inr (5, [.ref q_13, .ref q_14, .int 3, .int 0])), (q_13, zL E 41 (fun _ => 0)), (q_14, zI E 41 (fun _ => 0))] H := hP
  have hD : va_D A [(h0, .inr (5, [.ref q_13, .ref q_14, .int 3, .int 0])), (q_13, zL E 41 (fun _ => 0)), (q_14, zI E 41 (fun _ => 0))] := hD
  refine lv_iconst (v := 1) hx hb d_Tw_init_25 (by decide) ?_
  refine lv_istore_n (lv' := [(1, .int 1), (0, .ref h0)]) hx hb d_Tw_init_26 rfl hl (by decide) rfl (fun ls hl => ?_)
  have hl := lv_sub (l' := [(0, .ref h0), (1, .int (nI 1))]) hl [1, 0] (rfl)
  exact lp_Tw_init2 C hA hK hst 40 1 (fun _ => 0) (fun _ => 0) (by omega) (by omega) (fun j hj => by rw [show j = 0 by omega]; exact ⟨rfl, rfl⟩) (fun j _ _ => rfl) _ _ ls hP hD hS hl
