set_option maxHeartbeats 4000000 in
set_option maxRecDepth 100000 in
theorem c_Tw_threePegMoves (l : Launch) (E : zG) (n : Nat) (hn : n < 63) : zMet l y_Tw_threePegMoves b_Tw_threePegMoves 1 (some .long) 0 0 0 0 E [.int (nI n)] [] (zQl E (S := Unit) (fun r _ => r = lN (2 ^ n - 1)) (fun _ => [])) := by
  refine zz_met (by decide +kernel) (Nat.le_of_ble_eq_true rfl) ?_
  intro p e s m below meth c A ls C hin hA hK hst hP hD hl
  obtain ⟨hx, hb, hr, hml, hown, hts, hlk⟩ := id C
  have hS : va_S A s.heap s.heap [] := va_S.rf
  have hl : lv_has ls 1 [(0, .int (nI n))] := hl
  refine lv_lconst (v := 1) hx hb d_Tw_threePegMoves_0 (by decide) ?_
  refine lv_iload_n hx hb d_Tw_threePegMoves_1 rfl (lv_at hl 0 rfl) ?_
  refine lv_lshl (v := 1 <<< ((nI n).toInt64 &&& 63)) hx hb d_Tw_threePegMoves_2 (rfl) ?_
  refine lv_lconst (v := 1) hx hb d_Tw_threePegMoves_3 (by decide) ?_
  refine lv_lsub hx hb d_Tw_threePegMoves_4 ?_
  exact zz_retl C hS () (tw_th n hn) hP hD d_Tw_threePegMoves_5

set_option maxHeartbeats 4000000 in
set_option maxRecDepth 100000 in
theorem c_Tw_set (l : Launch) (E : zG) (h0 e1 e2 : Nat) (f4 : Nat → Int64) (fo : Nat → Int32) (pg ds x y : Int32) : zMet l y_Tw_set b_Tw_set 3 (some .boolean) 0 0 0 0 E [.ref h0, .int x, .int y] [(h0, .inr (5, [.ref e1, .ref e2, .int pg, .int ds])), (e1, zL E 41 f4), (e2, zI E 41 fo)] (zQi E (S := Int32 × Int32) (fun r u => (¬ x < 3 ∧ ¬ 4 < x ∧ ¬ y < 0 ∧ y ≤ 40 → r = 1 ∧ u = (x, y)) ∧ (¬ (¬ x < 3 ∧ ¬ 4 < x ∧ ¬ y < 0 ∧ y ≤ 40) → r = 0 ∧ u = (pg, ds))) (fun u => [(h0, .inr (5, [.ref e1, .ref e2, .int u.1, .int u.2])), (e1, zL E 41 f4), (e2, zI E 41 fo)])) := by
  refine zz_met (by decide +kernel) (Nat.le_of_ble_eq_true rfl) ?_
  intro p e s m below meth c A ls C hin hA hK hst hP hD hl
  obtain ⟨hx, hb, hr, hml, hown, hts, hlk⟩ := id C
  have hS : va_S A s.heap s.heap [] := va_S.rf
  have hl : lv_has ls 3 [(0, .ref h0), (1, .int x), (2, .int y)] := hl
  refine lv_iload_n hx hb d_Tw_set_0 rfl (lv_at hl 1 rfl) ?_
  refine lv_iconst (v := 3) hx hb d_Tw_set_1 (by decide) ?_
  refine lv_icmp_lt (tgt := 20) hx hb d_Tw_set_2 (by decide) (fun c_1 => ?_) (fun c_1 => ?_)
  · refine lv_iconst (v := 0) hx hb d_Tw_set_20 (by decide) ?_
    exact zz_reti C (rfl) hS (pg, ds) (⟨fun h => absurd h (by intro h; exact h.1 c_1), fun _ => ⟨rfl, rfl⟩⟩) hP hD d_Tw_set_21
  · refine lv_iload_n hx hb d_Tw_set_5 rfl (lv_at hl 1 rfl) ?_
    refine lv_iconst (v := 4) hx hb d_Tw_set_6 (by decide) ?_
    refine lv_icmp_gt (tgt := 20) hx hb d_Tw_set_7 (by decide) (fun c_2 => ?_) (fun c_2 => ?_)
    · refine lv_iconst (v := 0) hx hb d_Tw_set_20 (by decide) ?_
      exact zz_reti C (rfl) hS (pg, ds) (⟨fun h => absurd h (by intro h; exact h.2.1 c_2), fun _ => ⟨rfl, rfl⟩⟩) hP hD d_Tw_set_21
    · refine lv_iload_n hx hb d_Tw_set_10 rfl (lv_at hl 2 rfl) ?_
      refine lv_if_lt (tgt := 20) hx hb d_Tw_set_11 (by decide) (fun c_3 => ?_) (fun c_3 => ?_)
      · refine lv_iconst (v := 0) hx hb d_Tw_set_20 (by decide) ?_
        exact zz_reti C (rfl) hS (pg, ds) (⟨fun h => absurd h (by intro h; exact h.2.2.1 c_3), fun _ => ⟨rfl, rfl⟩⟩) hP hD d_Tw_set_21
      · refine lv_iload_n hx hb d_Tw_set_14 rfl (lv_at hl 2 rfl) ?_
        refine lv_bipush (v := 40) hx hb d_Tw_set_15 (by decide) ?_
        refine lv_icmp_le (tgt := 22) hx hb d_Tw_set_17 (by decide) (fun c_4 => ?_) (fun c_4 => ?_)
        · refine lv_aload_n hx hb d_Tw_set_22 rfl (lv_at hl 0 rfl) ?_
          refine lv_iload_n hx hb d_Tw_set_23 rfl (lv_at hl 1 rfl) ?_
          refine zz_put C hK hP hD hS fl_Tw_19 0 rfl rfl rfl (Nat.le_of_ble_eq_true rfl) d_Tw_set_24 (fun H locs hP hD hS => ?_)
          have hP : va_P E.1 vwCl [(h0, .inr (5, [.ref e1, .ref e2, .int x, .int ds])), (e1, zL E 41 f4), (e2, zI E 41 fo)] H := hP
          have hD : va_D A [(h0, .inr (5, [.ref e1, .ref e2, .int x, .int ds])), (e1, zL E 41 f4), (e2, zI E 41 fo)] := hD
          refine lv_aload_n hx hb d_Tw_set_27 rfl (lv_at hl 0 rfl) ?_
          refine lv_iload_n hx hb d_Tw_set_28 rfl (lv_at hl 2 rfl) ?_
          refine zz_put C hK hP hD hS fl_Tw_33 0 rfl rfl rfl (Nat.le_of_ble_eq_true rfl) d_Tw_set_29 (fun H locs hP hD hS => ?_)
          have hP : va_P E.1 vwCl [(h0, .inr (5, [.ref e1, .ref e2, .int x, .int y])), (e1, zL E 41 f4), (e2, zI E 41 fo)] H := hP
          have hD : va_D A [(h0, .inr (5, [.ref e1, .ref e2, .int x, .int y])), (e1, zL E 41 f4), (e2, zI E 41 fo)] := hD
          refine lv_iconst (v := 1) hx hb d_Tw_set_32 (by decide) ?_
          exact zz_reti C (rfl) hS (x, y) (⟨fun _ => ⟨rfl, rfl⟩, fun h => absurd ⟨c_1, c_2, c_3, c_4⟩ h⟩) hP hD d_Tw_set_33
        · refine lv_iconst (v := 0) hx hb d_Tw_set_20 (by decide) ?_
          exact zz_reti C (rfl) hS (pg, ds) (⟨fun h => absurd h (by intro h; exact c_4 h.2.2.2), fun _ => ⟨rfl, rfl⟩⟩) hP hD d_Tw_set_21

set_option maxHeartbeats 4000000 in
set_option maxRecDepth 100000 in
theorem c_Tw_moves (l : Launch) (E : zG) (h0 e1 e2 pg ds : Nat) (f4 : Nat → Int64) (fo : Nat → Int32) (hp : pg = 3 ∨ pg = 4) (hd : ds ≤ 40) (hT : ∀ j, j < 41 → f4 j = lN (tw_F j) ∧ fo j = nI (tw_K j)) : zMet l y_Tw_moves b_Tw_moves 1 (some .long) 1 20 0 0 E [.ref h0] [(h0, .inr (5, [.ref e1, .ref e2, .int (nI pg), .int (nI ds)])), (e1, zL E 41 f4), (e2, zI E 41 fo)] (zQl E (S := Unit) (fun r _ => r = lN (tw_M pg ds)) (fun _ => [(h0, .inr (5, [.ref e1, .ref e2, .int (nI pg), .int (nI ds)])), (e1, zL E 41 f4), (e2, zI E 41 fo)])) := by
  refine zz_met (by decide +kernel) (Nat.le_of_ble_eq_true rfl) ?_
  intro p e s m below meth c A ls C hin hA hK hst hP hD hl
  obtain ⟨hx, hb, hr, hml, hown, hts, hlk⟩ := id C
  have hS : va_S A s.heap s.heap [] := va_S.rf
  have hl : lv_has ls 1 [(0, .ref h0)] := hl
  refine lv_aload_n hx hb d_Tw_moves_0 rfl (lv_at hl 0 rfl) ?_
  refine zz_get C hK hP fl_Tw_19 0 rfl rfl d_Tw_moves_1 ?_
  refine lv_iconst (v := 3) hx hb d_Tw_moves_4 (by decide) ?_
  refine lv_icmp_ne (tgt := 18) hx hb d_Tw_moves_5 (by decide) (fun c_5 => ?_) (fun c_5 => ?_)
  · have h3 : ¬ pg = 3 := fun z => c_5 (by rw [z]; rfl)
    refine lv_aload_n hx hb d_Tw_moves_18 rfl (lv_at hl 0 rfl) ?_
    refine zz_get C hK hP fl_Tw_11 0 rfl rfl d_Tw_moves_19 ?_
    refine lv_aload_n hx hb d_Tw_moves_22 rfl (lv_at hl 0 rfl) ?_
    refine zz_get C hK hP fl_Tw_33 0 rfl rfl d_Tw_moves_23 ?_
    refine zz_laldN C hK hP 1 rfl (j := ds) (by omega) (by omega) d_Tw_moves_26 ?_
    exact zz_retl C hS () (by unfold tw_M; rw [if_neg h3]; exact (hT ds (by omega)).1) hP hD d_Tw_moves_27
  · have h3 : pg = 3 := by
      rcases hp with q | q
      · exact q
      · exact absurd (by rw [q] at c_5; exact c_5) (by decide : ¬ nI 4 = 3)
    refine lv_aload_n hx hb d_Tw_moves_8 rfl (lv_at hl 0 rfl) ?_
    refine zz_get C hK hP fl_Tw_33 0 rfl rfl d_Tw_moves_9 ?_
    refine zz_gol (wr := [(h0, .inr (5, [.ref e1, .ref e2, .int (nI pg), .int (nI ds)])), (e1, zL E 41 f4), (e2, zI E 41 fo)]) [] [0, 1, 2] rfl rfl (by decide) (by decide) hA hP hD hS (zz_runS (wc := []) (As := [.int (nI ds)]) (rest := []) C (c_Tw_threePegMoves l E ds (by omega)) ym_Tw_threePegMoves wd_ml_Tw_29 wd_st_Tw_threePegMoves [] (by decide) rfl hA hK hst hP hD hS rfl hl.1 rfl (Nat.le_of_ble_eq_true rfl) ⟨Nat.le_of_ble_eq_true rfl, Nat.le_of_ble_eq_true rfl⟩ ⟨Nat.le_of_ble_eq_true rfl, Nat.le_of_ble_eq_true rfl⟩ d_Tw_moves_12) (fun r_6 u H locs hw hP hD hS => ?_)
    have hP : va_P E.1 vwCl [(h0, .inr (5, [.ref e1, .ref e2, .int (nI pg), .int (nI ds)])), (e1, zL E 41 f4), (e2, zI E 41 fo)] H := hP
    have hD : va_D A [(h0, .inr (5, [.ref e1, .ref e2, .int (nI pg), .int (nI ds)])), (e1, zL E 41 f4), (e2, zI E 41 fo)] := hD
    refine lv_goto (tgt := 27) hx hb d_Tw_moves_15 (by decide) ?_
    exact zz_retl C hS () (by unfold tw_M; rw [if_pos h3]; exact hw) hP hD d_Tw_moves_27

set_option maxHeartbeats 4000000 in
set_option maxRecDepth 100000 in
theorem lp_Tw_init1 {p : Program} {l : Launch} {e : Env} {s : State} {m : MethodId} {below : List Frame} {meth : Method} {c : Code} {A : Nat → Prop}  {E : zG} {h0 e1 e2 n : Nat} (hn : n < 41) (hn1 : 1 ≤ n) (C : cx p s m #[.ref h0] meth c b_Tw_init 5 y_Tw_init.cls none) (hA : ∀ q, s.heap.size ≤ q → A q) (hK : kt E s) (hst : stt A s s.heap) :
    ∀ (f k : Nat) (g4 : Nat → Int64) (go : Nat → Int32) (_ : k + f = n) (_ : ∀ j, j < n → g4 j = lN (tw_F j) ∧ go j = nI (tw_K j)) (_ : ∀ j, n < j → j < 41 → go j = 0) (_ : g4 n = lN (tw_in n k).1 ∧ go n = nI (tw_in n k).2) (kk : ∀ (g4 : Nat → Int64) (go : Nat → Int32) (H : Heap) (locs : List Loc) (ls : Array Slot), (∀ j, j < n + 1 → g4 j = lN (tw_F j) ∧ go j = nI (tw_K j)) → (∀ j, n < j → j < 41 → go j = 0) → va_P E.1 vwCl [(h0, .inr (5, [.ref e1, .ref e2, .int 3, .int 0])), (e1, zL E 41 g4), (e2, zI E 41 go)] H → va_D A [(h0, .inr (5, [.ref e1, .ref e2, .int 3, .int 0])), (e1, zL E 41 g4), (e2, zI E 41 go)] → va_S A s.heap H locs → lv_has ls 5 [(0, .ref h0), (1, .int (nI n))] → W p l e (zR 1 20 2 82) s m #[.ref h0] below meth c H locs 2 82 (MQ below ((zQv E (S := Nat × Nat × (Nat → Int64) × (Nat → Int32)) (fun u => ∀ j, j < 41 → u.2.2.1 j = lN (tw_F j) ∧ u.2.2.2 j = nI (tw_K j)) (fun u => [(h0, .inr (5, [.ref u.1, .ref u.2.1, .int 3, .int 0])), (u.1, zL E 41 u.2.2.1), (u.2.1, zI E 41 u.2.2.2)])) A) #[.ref h0] s 2 82 A) (F0 m 98 ls [])) (H : Heap) (locs : List Loc) (ls : Array Slot), va_P E.1 vwCl [(h0, .inr (5, [.ref e1, .ref e2, .int 3, .int 0])), (e1, zL E 41 g4), (e2, zI E 41 go)] H → va_D A [(h0, .inr (5, [.ref e1, .ref e2, .int 3, .int 0])), (e1, zL E 41 g4), (e2, zI E 41 go)] → va_S A s.heap H locs → lv_has ls 5 [(0, .ref h0), (1, .int (nI n)), (2, .int (nI k))] → W p l e (zR 1 20 2 82) s m #[.ref h0] below meth c H locs 2 82 (MQ below ((zQv E (S := Nat × Nat × (Nat → Int64) × (Nat → Int32)) (fun u => ∀ j, j < 41 → u.2.2.1 j = lN (tw_F j) ∧ u.2.2.2 j = nI (tw_K j)) (fun u => [(h0, .inr (5, [.ref u.1, .ref u.2.1, .int 3, .int 0])), (u.1, zL E 41 u.2.2.1), (u.2.1, zI E 41 u.2.2.2)])) A) #[.ref h0] s 2 82 A) (F0 m 44 ls []) := by
  obtain ⟨hx, hb, hr, hml, hown, hts, hlk⟩ := id C
  intro f
  induction f with
  | zero =>
    intro k g4 go hk h1 h2 h3 kk H locs ls hP hD hS hl
    have hk : k = n := by omega
    subst hk
    refine lv_iload_n hx hb d_Tw_init_44 rfl (lv_at hl 2 rfl) ?_
    refine lv_iload_n hx hb d_Tw_init_45 rfl (lv_at hl 1 rfl) ?_
    refine lv_icmp_ge (tgt := 98) hx hb d_Tw_init_46 (by decide) (fun c_7 => ?_) (fun c_7 => ?_)
    · exact kk g4 go _ _ ls (lt_s h1 (by rw [h3.1, h3.2, tw_in_ok k hn hn1]; exact ⟨rfl, rfl⟩)) h2 hP hD hS (lv_sub hl [0, 1] rfl)
    · exact absurd (nI_le (Nat.le_refl _) (by omega)) c_7
  | succ f ih =>
    intro k g4 go hk h1 h2 h3 kk H locs ls hP hD hS hl
    have hkn : k < n := by omega
    have hc := tw_c_lt n hn k (by omega)
    have hm := tw_in_lt n hn k (by omega)
    refine lv_iload_n hx hb d_Tw_init_44 rfl (lv_at hl 2 rfl) ?_
    refine lv_iload_n hx hb d_Tw_init_45 rfl (lv_at hl 1 rfl) ?_
    refine lv_icmp_ge (tgt := 98) hx hb d_Tw_init_46 (by decide) (fun c_8 => ?_) (fun c_8 => ?_)
    · exact absurd c_8 (nI_ge hkn (by omega))
    · refine lv_ldc2 (v := 2) hx hb hown (hts _ wk_Tw_27) d_Tw_init_49 ?_
      refine lv_aload_n hx hb d_Tw_init_52 rfl (lv_at hl 0 rfl) ?_
      refine zz_get C hK hP fl_Tw_11 0 rfl rfl d_Tw_init_53 ?_
      refine lv_iload_n hx hb d_Tw_init_56 rfl (lv_at hl 2 rfl) ?_
      refine zz_laldN C hK hP 1 rfl (j := k) (by omega) (by omega) d_Tw_init_57 ?_
      refine lv_lmul hx hb d_Tw_init_58 ?_
      refine zz_eql (y := lN (2 * tw_F k)) (by rw [(h1 k hkn).1]; exact lN_mul 2 _) ?_
      refine lv_iload_n hx hb d_Tw_init_59 rfl (lv_at hl 1 rfl) ?_
      refine lv_iload_n hx hb d_Tw_init_60 rfl (lv_at hl 2 rfl) ?_
      refine lv_isub hx hb d_Tw_init_61 ?_
      refine zz_eqi (y := nI (n - k)) (pk_sub (by omega)) ?_
      refine zz_gol (wr := [(h0, .inr (5, [.ref e1, .ref e2, .int 3, .int 0])), (e1, zL E 41 g4), (e2, zI E 41 go)]) [] [0, 1, 2] rfl rfl (by decide) (by decide) hA hP hD hS (zz_runS (wc := []) (As := [.int (nI (n - k))]) (rest := [.long (lN (2 * tw_F k))]) C (c_Tw_threePegMoves l E (n - k) (by omega)) ym_Tw_threePegMoves wd_ml_Tw_29 wd_st_Tw_threePegMoves [] (by decide) rfl hA hK hst hP hD hS rfl hl.1 rfl (Nat.le_of_ble_eq_true rfl) ⟨Nat.le_of_ble_eq_true rfl, Nat.le_of_ble_eq_true rfl⟩ ⟨Nat.le_of_ble_eq_true rfl, Nat.le_of_ble_eq_true rfl⟩ d_Tw_init_62) (fun r_9 u H locs hw hP hD hS => ?_)
      have hP : va_P E.1 vwCl [(h0, .inr (5, [.ref e1, .ref e2, .int 3, .int 0])), (e1, zL E 41 g4), (e2, zI E 41 go)] H := hP
      have hD : va_D A [(h0, .inr (5, [.ref e1, .ref e2, .int 3, .int 0])), (e1, zL E 41 g4), (e2, zI E 41 go)] := hD
      subst hw
      refine lv_ladd hx hb d_Tw_init_65 ?_
      refine zz_eql (y := lN (2 * tw_F k + (2 ^ (n - k) - 1))) (lN_add _ _) ?_
      refine lv_lstore_n (lv' := [(3, .long (lN (2 * tw_F k + (2 ^ (n - k) - 1)))), (0, .ref h0), (1, .int (nI n)), (2, .int (nI k))]) hx hb d_Tw_init_66 rfl hl (by decide) rfl (fun ls hl => ?_)
      refine lv_lload_n hx hb d_Tw_init_67 rfl (lv_at hl 0 rfl) ?_
      refine lv_aload_n hx hb d_Tw_init_68 rfl (lv_at hl 1 rfl) ?_
      refine zz_get C hK hP fl_Tw_11 0 rfl rfl d_Tw_init_69 ?_
      refine lv_iload_n hx hb d_Tw_init_72 rfl (lv_at hl 2 rfl) ?_
      refine zz_laldN C hK hP 1 rfl (j := n) (by omega) (by omega) d_Tw_init_73 ?_
      refine W.lcmp hx hb d_Tw_init_74 ?_
      refine lv_if_ge (tgt := 92) hx hb d_Tw_init_75 (by decide) (fun c_10 => ?_) (fun c_10 => ?_)
      · have hge : ¬ 2 * tw_F k + (2 ^ (n - k) - 1) < (tw_in n k).1 := fun z => by
          have h9 := (lg_cmp_ge _ _).mp c_10
          rw [h3.1, pk_lLE (by omega) (by omega)] at h9
          omega
        refine lv_iinc (v := nI (k + 1)) (lv' := [(2, .int (nI (k + 1))), (3, .long (lN (2 * tw_F k + (2 ^ (n - k) - 1)))), (0, .ref h0), (1, .int (nI n))]) hx hb d_Tw_init_92 hl (k := 3) rfl (nI_1 _) (by decide) rfl (fun ls hl => ?_)
        refine lv_goto (tgt := 44) hx hb d_Tw_init_95 (by decide) ?_
        exact ih (k + 1) g4 go (by omega) h1 h2 (by rw [tw_in, if_neg hge]; exact h3) kk _ _ ls hP hD hS (lv_sub hl [2, 3, 0] rfl)
      · have hlt : 2 * tw_F k + (2 ^ (n - k) - 1) < (tw_in n k).1 := by
          rcases Nat.lt_or_ge (2 * tw_F k + (2 ^ (n - k) - 1)) (tw_in n k).1 with q | q
          · exact q
          · exact absurd ((lg_cmp_ge _ _).mpr (by rw [h3.1, pk_lLE (by omega) (by omega)]; exact q)) c_10
        refine lv_aload_n hx hb d_Tw_init_78 rfl (lv_at hl 1 rfl) ?_
        refine zz_get C hK hP fl_Tw_11 0 rfl rfl d_Tw_init_79 ?_
        refine lv_iload_n hx hb d_Tw_init_82 rfl (lv_at hl 2 rfl) ?_
        refine lv_lload_n hx hb d_Tw_init_83 rfl (lv_at hl 0 rfl) ?_
        refine zz_lastN C hK hP hD hS 1 rfl (j := n) (by omega) (by omega) d_Tw_init_84 (fun H locs hP hD hS => ?_)
        have hP : va_P E.1 vwCl [(h0, .inr (5, [.ref e1, .ref e2, .int 3, .int 0])), (e1, zL E 41 (vp_updL g4 n (lN (2 * tw_F k + (2 ^ (n - k) - 1))))), (e2, zI E 41 go)] H := hP
        have hD : va_D A [(h0, .inr (5, [.ref e1, .ref e2, .int 3, .int 0])), (e1, zL E 41 (vp_updL g4 n (lN (2 * tw_F k + (2 ^ (n - k) - 1))))), (e2, zI E 41 go)] := hD
        refine lv_aload_n hx hb d_Tw_init_85 rfl (lv_at hl 1 rfl) ?_
        refine zz_get C hK hP fl_Tw_15 0 rfl rfl d_Tw_init_86 ?_
        refine lv_iload_n hx hb d_Tw_init_89 rfl (lv_at hl 2 rfl) ?_
        refine lv_iload_n hx hb d_Tw_init_90 rfl (lv_at hl 3 rfl) ?_
        refine zz_iastN C hK hP hD hS 2 rfl (j := n) (by omega) (by omega) d_Tw_init_91 (fun H locs hP hD hS => ?_)
        have hP : va_P E.1 vwCl [(h0, .inr (5, [.ref e1, .ref e2, .int 3, .int 0])), (e1, zL E 41 (vp_updL g4 n (lN (2 * tw_F k + (2 ^ (n - k) - 1))))), (e2, zI E 41 (upd go n (nI k)))] H := hP
        have hD : va_D A [(h0, .inr (5, [.ref e1, .ref e2, .int 3, .int 0])), (e1, zL E 41 (vp_updL g4 n (lN (2 * tw_F k + (2 ^ (n - k) - 1))))), (e2, zI E 41 (upd go n (nI k)))] := hD
        refine lv_iinc (v := nI (k + 1)) (lv' := [(2, .int (nI (k + 1))), (3, .long (lN (2 * tw_F k + (2 ^ (n - k) - 1)))), (0, .ref h0), (1, .int (nI n))]) hx hb d_Tw_init_92 hl (k := 3) rfl (nI_1 _) (by decide) rfl (fun ls hl => ?_)
        refine lv_goto (tgt := 44) hx hb d_Tw_init_95 (by decide) ?_
        exact ih (k + 1) (vp_updL g4 n (lN (2 * tw_F k + (2 ^ (n - k) - 1)))) (upd go n (nI k)) (by omega) (fun j hj => by rw [pk_uLn (by omega), pk_un (by omega)]; exact h1 j hj) (fun j hj1 hj2 => by rw [pk_un (by omega)]; exact h2 j hj1 hj2) (by rw [tw_in, if_pos hlt, pk_uLs, pk_us]; exact ⟨rfl, rfl⟩) kk _ _ ls hP hD hS (lv_sub hl [2, 3, 0] rfl)

set_option maxHeartbeats 4000000 in
set_option maxRecDepth 100000 in
theorem lp_Tw_init2 {p : Program} {l : Launch} {e : Env} {s : State} {m : MethodId} {below : List Frame} {meth : Method} {c : Code} {A : Nat → Prop}  {E : zG} {h0 e1 e2 : Nat} (C : cx p s m #[.ref h0] meth c b_Tw_init 5 y_Tw_init.cls none) (hA : ∀ q, s.heap.size ≤ q → A q) (hK : kt E s) (hst : stt A s s.heap) :
    ∀ (f n : Nat) (g4 : Nat → Int64) (go : Nat → Int32) (_ : n + f = 41) (_ : 1 ≤ n) (_ : ∀ j, j < n → g4 j = lN (tw_F j) ∧ go j = nI (tw_K j)) (_ : ∀ j, n ≤ j → j < 41 → go j = 0) (H : Heap) (locs : List Loc) (ls : Array Slot), va_P E.1 vwCl [(h0, .inr (5, [.ref e1, .ref e2, .int 3, .int 0])), (e1, zL E 41 g4), (e2, zI E 41 go)] H → va_D A [(h0, .inr (5, [.ref e1, .ref e2, .int 3, .int 0])), (e1, zL E 41 g4), (e2, zI E 41 go)] → va_S A s.heap H locs → lv_has ls 5 [(0, .ref h0), (1, .int (nI n))] → W p l e (zR 1 20 2 82) s m #[.ref h0] below meth c H locs 2 82 (MQ below ((zQv E (S := Nat × Nat × (Nat → Int64) × (Nat → Int32)) (fun u => ∀ j, j < 41 → u.2.2.1 j = lN (tw_F j) ∧ u.2.2.2 j = nI (tw_K j)) (fun u => [(h0, .inr (5, [.ref u.1, .ref u.2.1, .int 3, .int 0])), (u.1, zL E 41 u.2.2.1), (u.2.1, zI E 41 u.2.2.2)])) A) #[.ref h0] s 2 82 A) (F0 m 27 ls []) := by
  obtain ⟨hx, hb, hr, hml, hown, hts, hlk⟩ := id C
  intro f
  induction f with
  | zero =>
    intro n g4 go hn hn1 h1 h2 H locs ls hP hD hS hl
    have hn : n = 41 := by omega
    subst hn
    refine lv_iload_n hx hb d_Tw_init_27 rfl (lv_at hl 1 rfl) ?_
    refine lv_bipush (v := 40) hx hb d_Tw_init_28 (by decide) ?_
    refine lv_icmp_gt (tgt := 104) hx hb d_Tw_init_30 (by decide) (fun c_11 => ?_) (fun c_11 => ?_)
    · exact zz_retv C hS (e1, e2, g4, go) (h1) hP hD d_Tw_init_104
    · exact absurd (by decide : (40 : Int32) < nI 41) c_11
  | succ f ih =>
    intro n g4 go hn hn1 h1 h2 H locs ls hP hD hS hl
    have hn4 : n < 41 := by omega
    refine lv_iload_n hx hb d_Tw_init_27 rfl (lv_at hl 1 rfl) ?_
    refine lv_bipush (v := 40) hx hb d_Tw_init_28 (by decide) ?_
    refine lv_icmp_gt (tgt := 104) hx hb d_Tw_init_30 (by decide) (fun c_12 => ?_) (fun c_12 => ?_)
    · exact absurd (nI_le (b := 40) (by omega) (by decide)) (zz_nle c_12)
    · refine lv_aload_n hx hb d_Tw_init_33 rfl (lv_at hl 0 rfl) ?_
      refine zz_get C hK hP fl_Tw_11 0 rfl rfl d_Tw_init_34 ?_
      refine lv_iload_n hx hb d_Tw_init_37 rfl (lv_at hl 1 rfl) ?_
      refine lv_ldc2 (v := 9223372036854775807) hx hb hown (hts _ wk_Tw_25) d_Tw_init_38 ?_
      refine zz_lastN C hK hP hD hS 1 rfl (j := n) (by omega) (by omega) d_Tw_init_41 (fun H locs hP hD hS => ?_)
      have hP : va_P E.1 vwCl [(h0, .inr (5, [.ref e1, .ref e2, .int 3, .int 0])), (e1, zL E 41 (vp_updL g4 n 9223372036854775807)), (e2, zI E 41 go)] H := hP
      have hD : va_D A [(h0, .inr (5, [.ref e1, .ref e2, .int 3, .int 0])), (e1, zL E 41 (vp_updL g4 n 9223372036854775807)), (e2, zI E 41 go)] := hD
      refine lv_iconst (v := 0) hx hb d_Tw_init_42 (by decide) ?_
      refine lv_istore_n (lv' := [(2, .int 0), (0, .ref h0), (1, .int (nI n))]) hx hb d_Tw_init_43 rfl hl (by decide) rfl (fun ls hl => ?_)
      have hl := lv_sub (l' := [(0, .ref h0), (1, .int (nI n)), (2, .int (nI 0))]) hl [1, 2, 0] (rfl)
      refine lp_Tw_init1 hn4 hn1 C hA hK hst n 0 _ go (by omega) (fun j hj => by rw [pk_uLn (by omega)]; exact h1 j hj) (fun j hj1 hj2 => h2 j (by omega) hj2) ⟨(pk_uLs).trans rfl, h2 n (Nat.le_refl _) hn4⟩ (fun g4 go H locs ls h1 h2 hP hD hS hl => ?_) _ _ ls hP hD hS hl
      refine lv_iinc (v := nI (n + 1)) (lv' := [(1, .int (nI (n + 1))), (0, .ref h0)]) hx hb d_Tw_init_98 hl (k := 1) rfl (nI_1 _) (by decide) rfl (fun ls hl => ?_)
      refine lv_goto (tgt := 27) hx hb d_Tw_init_101 (by decide) ?_
      exact ih (n + 1) g4 go (by omega) (by omega) h1 (fun j hj1 hj2 => h2 j (by omega) hj2) _ _ ls hP hD hS (lv_sub hl [1, 0] rfl)

set_option maxHeartbeats 4000000 in
set_option maxRecDepth 100000 in
theorem c_Tw_init (l : Launch) (E : zG) (h0 : Nat) : zMet l y_Tw_init b_Tw_init 5 none 1 20 2 82 E [.ref h0] [(h0, .inr (5, [.null, .null, .int 0, .int 0]))] (zQv E (S := Nat × Nat × (Nat → Int64) × (Nat → Int32)) (fun u => ∀ j, j < 41 → u.2.2.1 j = lN (tw_F j) ∧ u.2.2.2 j = nI (tw_K j)) (fun u => [(h0, .inr (5, [.ref u.1, .ref u.2.1, .int 3, .int 0])), (u.1, zL E 41 u.2.2.1), (u.2.1, zI E 41 u.2.2.2)])) := by
  refine zz_met (by decide +kernel) (Nat.le_of_ble_eq_true rfl) ?_
  intro p e s m below meth c A ls C hin hA hK hst hP hD hl
  obtain ⟨hx, hb, hr, hml, hown, hts, hlk⟩ := id C
  have hS : va_S A s.heap s.heap [] := va_S.rf
  have hl : lv_has ls 5 [(0, .ref h0)] := hl
  refine lv_aload_n hx hb d_Tw_init_0 rfl (lv_at hl 0 rfl) ?_
  refine zz_oi C wd_ml_Tw_3 wd_im_obj wd_cd_obj hl.1 (Nat.le_of_ble_eq_true rfl) (Nat.le_of_ble_eq_true rfl) d_Tw_init_1 ?_
  refine lv_aload_n hx hb d_Tw_init_4 rfl (lv_at hl 0 rfl) ?_
  refine lv_bipush (v := 41) hx hb d_Tw_init_5 (by decide) ?_
  refine zz_eqi (show (41 : Int32) = nI 41 from rfl) ?_
  refine zz_newL C hK hP hD hS hA (by decide) wd_ac_L (Nat.le_of_ble_eq_true rfl) (Nat.le_of_ble_eq_true rfl) d_Tw_init_7 (fun q_13 H hP hD hS => ?_)
  have hP : va_P E.1 vwCl [(h0, .inr (5, [.null, .null, .int 0, .int 0])), (q_13, zL E 41 (fun _ => 0))] H := hP
  have hD : va_D A [(h0, .inr (5, [.null, .null, .int 0, .int 0])), (q_13, zL E 41 (fun _ => 0))] := hD
  refine zz_putF C hin hK hP hD hS fl_Tw_11 (fun q h => by cases h; rfl) 0 rfl rfl rfl (Nat.le_of_ble_eq_true rfl) d_Tw_init_9 (fun H locs hP hD hS => ?_)
  have hP : va_P E.1 vwCl [(h0, .inr (5, [.ref q_13, .null, .int 0, .int 0])), (q_13, zL E 41 (fun _ => 0))] H := hP
  have hD : va_D A [(h0, .inr (5, [.ref q_13, .null, .int 0, .int 0])), (q_13, zL E 41 (fun _ => 0))] := hD
  refine lv_aload_n hx hb d_Tw_init_12 rfl (lv_at hl 0 rfl) ?_
  refine lv_bipush (v := 41) hx hb d_Tw_init_13 (by decide) ?_
  refine zz_eqi (show (41 : Int32) = nI 41 from rfl) ?_
  refine zz_newI C hK hP hD hS hA (by decide) wd_ac_I (Nat.le_of_ble_eq_true rfl) (Nat.le_of_ble_eq_true rfl) d_Tw_init_15 (fun q_14 H hP hD hS => ?_)
  have hP : va_P E.1 vwCl [(h0, .inr (5, [.ref q_13, .null, .int 0, .int 0])), (q_13, zL E 41 (fun _ => 0)), (q_14, zI E 41 (fun _ => 0))] H := hP
  have hD : va_D A [(h0, .inr (5, [.ref q_13, .null, .int 0, .int 0])), (q_13, zL E 41 (fun _ => 0)), (q_14, zI E 41 (fun _ => 0))] := hD
  refine zz_putF C hin hK hP hD hS fl_Tw_15 (fun q h => by cases h; rfl) 0 rfl rfl rfl (Nat.le_of_ble_eq_true rfl) d_Tw_init_17 (fun H locs hP hD hS => ?_)
  have hP : va_P E.1 vwCl [(h0, .inr (5, [.ref q_13, .ref q_14, .int 0, .int 0])), (q_13, zL E 41 (fun _ => 0)), (q_14, zI E 41 (fun _ => 0))] H := hP
  have hD : va_D A [(h0, .inr (5, [.ref q_13, .ref q_14, .int 0, .int 0])), (q_13, zL E 41 (fun _ => 0)), (q_14, zI E 41 (fun _ => 0))] := hD
  refine lv_aload_n hx hb d_Tw_init_20 rfl (lv_at hl 0 rfl) ?_
  refine lv_iconst (v := 3) hx hb d_Tw_init_21 (by decide) ?_
  refine zz_put C hK hP hD hS fl_Tw_19 0 rfl rfl rfl (Nat.le_of_ble_eq_true rfl) d_Tw_init_22 (fun H locs hP hD hS => ?_)
  have hP : va_P E.1 vwCl [(h0, .inr (5, [.ref q_13, .ref q_14, .int 3, .int 0])), (q_13, zL E 41 (fun _ => 0)), (q_14, zI E 41 (fun _ => 0))] H := hP
  have hD : va_D A [(h0, .inr (5, [.ref q_13, .ref q_14, .int 3, .int 0])), (q_13, zL E 41 (fun _ => 0)), (q_14, zI E 41 (fun _ => 0))] := hD
  refine lv_iconst (v := 1) hx hb d_Tw_init_25 (by decide) ?_
  refine lv_istore_n (lv' := [(1, .int 1), (0, .ref h0)]) hx hb d_Tw_init_26 rfl hl (by decide) rfl (fun ls hl => ?_)
  have hl := lv_sub (l' := [(0, .ref h0), (1, .int (nI 1))]) hl [1, 0] (rfl)
  exact lp_Tw_init2 C hA hK hst 40 1 (fun _ => 0) (fun _ => 0) (by omega) (by omega) (fun j hj => by rw [show j = 0 by omega]; exact ⟨rfl, rfl⟩) (fun j _ _ => rfl) _ _ ls hP hD hS hl

set_option maxHeartbeats 4000000 in
set_option maxRecDepth 100000 in
theorem lp_Tw_tellOfThree {p : Program} {l : Launch} {e : Env} {s : State} {m : MethodId} {below : List Frame} {meth : Method} {c : Code} {A : Nat → Prop}  {E : zG} {rest low n0 : Nat} {wh p0 p1 p2 : Int32} (C : cx p s m #[.long (lN rest), .int wh, .int (nI low), .int (nI (low + n0)), .int p0, .int p1, .int p2] meth c b_Tw_tellOfThree 17 y_Tw_tellOfThree.cls (some .int)) (hA : ∀ q, s.heap.size ≤ q → A q) (hK : kt E s) (hst : stt A s s.heap) :
    ∀ (n r1 : Nat) (f t d : Int32) (_ : low + n < 41) (_ : r1 < 4611686018427387904) (_ : tw_three wh low n r1 f t d = tw_three wh low n0 rest p0 p1 p2) (H : Heap) (locs : List Loc) (ls : Array Slot), va_P E.1 vwCl [] H → va_D A [] → va_S A s.heap H locs → lv_has ls 17 [(0, .long (lN rest)), (2, .int wh), (3, .int (nI low)), (4, .int (nI (low + n0))), (5, .int p0), (6, .int p1), (7, .int p2), (8, .long (lN r1)), (10, .int f), (11, .int t), (12, .int d), (13, .int (nI (low + n) - 1))] → W p l e (zR 1 20 0 0) s m #[.long (lN rest), .int wh, .int (nI low), .int (nI (low + n0)), .int p0, .int p1, .int p2] below meth c H locs 0 0 (MQ below ((zQi E (S := Unit) (fun r _ => r = tw_three wh low n0 rest p0 p1 p2) (fun _ => [])) A) #[.long (lN rest), .int wh, .int (nI low), .int (nI (low + n0)), .int p0, .int p1, .int p2] s 0 0 A) (F0 m 21 ls []) := by
  obtain ⟨hx, hb, hr, hml, hown, hts, hlk⟩ := id C
  intro n
  induction n with
  | zero =>
    intro r1 f t d hn h1 hgo H locs ls hP hD hS hl
    refine lv_iload hx hb d_Tw_tellOfThree_21 (lv_at hl 11 rfl) ?_
    refine lv_iload_n hx hb d_Tw_tellOfThree_23 rfl (lv_at hl 2 rfl) ?_
    refine lv_icmp_lt (tgt := 112) hx hb d_Tw_tellOfThree_24 (by decide) (fun c_15 => ?_) (fun c_15 => ?_)
    · refine lv_iconst (v := (-1)) hx hb d_Tw_tellOfThree_112 (by decide) ?_
      exact zz_reti C (rfl) hS () (hgo) hP hD d_Tw_tellOfThree_113
    · exact absurd (zz_pred_lt low (by omega)) c_15
  | succ n ih =>
    intro r1 f t d hn h1 hgo H locs ls hP hD hS hl
    have hpw := tw_pow (n := n) (by omega)
    have e13 : nI (low + (n + 1)) - 1 = nI (low + n) := nI_pred (low + n)
    rw [e13] at hl
    refine lv_iload hx hb d_Tw_tellOfThree_21 (lv_at hl 11 rfl) ?_
    refine lv_iload_n hx hb d_Tw_tellOfThree_23 rfl (lv_at hl 2 rfl) ?_
    refine lv_icmp_lt (tgt := 112) hx hb d_Tw_tellOfThree_24 (by decide) (fun c_16 => ?_) (fun c_16 => ?_)
    · exact absurd c_16 (nI_nlt (by omega) (by omega))
    · refine lv_iload hx hb d_Tw_tellOfThree_27 (lv_at hl 11 rfl) ?_
      refine lv_iload_n hx hb d_Tw_tellOfThree_29 rfl (lv_at hl 2 rfl) ?_
      refine lv_isub hx hb d_Tw_tellOfThree_30 ?_
      refine zz_eqi (y := nI n) ((pk_sub (by omega)).trans (by rw [Nat.add_sub_cancel_left])) ?_
      refine zz_gol (wr := []) [] [] rfl rfl (by decide) (by decide) hA hP hD hS (zz_runS (wc := []) (As := [.int (nI n)]) (rest := []) C (c_Tw_threePegMoves l E n (by omega)) ym_Tw_threePegMoves wd_ml_Tw_29 wd_st_Tw_threePegMoves [] (by decide) rfl hA hK hst hP hD hS rfl hl.1 rfl (Nat.le_of_ble_eq_true rfl) ⟨Nat.le_of_ble_eq_true rfl, Nat.le_of_ble_eq_true rfl⟩ ⟨Nat.le_of_ble_eq_true rfl, Nat.le_of_ble_eq_true rfl⟩ d_Tw_tellOfThree_31) (fun r_17 u H locs hw hP hD hS => ?_)
      have hP : va_P E.1 vwCl [] H := hP
      have hD : va_D A [] := hD
      subst hw
      refine lv_lstore (lv' := [(14, .long (lN (2 ^ n - 1))), (0, .long (lN rest)), (2, .int wh), (3, .int (nI low)), (4, .int (nI (low + n0))), (5, .int p0), (6, .int p1), (7, .int p2), (8, .long (lN r1)), (10, .int f), (11, .int t), (12, .int d), (13, .int (nI (low + n)))]) hx hb d_Tw_tellOfThree_34 hl (by decide) rfl (fun ls hl => ?_)
      refine lv_lload hx hb d_Tw_tellOfThree_36 (lv_at hl 8 rfl) ?_
      refine lv_lload hx hb d_Tw_tellOfThree_38 (lv_at hl 0 rfl) ?_
      refine W.lcmp hx hb d_Tw_tellOfThree_40 ?_
      refine lv_if_ne (tgt := 66) hx hb d_Tw_tellOfThree_41 (by decide) (fun c_18 => ?_) (fun c_18 => ?_)
      · have hne : ¬ r1 = 2 ^ n - 1 := fun z => c_18 ((lg_cmp_eq _ _).mpr (by rw [z]))
        refine lv_iload hx hb d_Tw_tellOfThree_66 (lv_at hl 11 rfl) ?_
        refine lv_istore (lv' := [(16, .int d), (14, .long (lN (2 ^ n - 1))), (0, .long (lN rest)), (2, .int wh), (3, .int (nI low)), (4, .int (nI (low + n0))), (5, .int p0), (6, .int p1), (7, .int p2), (8, .long (lN r1)), (10, .int f), (11, .int t), (12, .int d), (13, .int (nI (low + n)))]) hx hb d_Tw_tellOfThree_68 hl (by decide) rfl (fun ls hl => ?_)
        refine lv_lload hx hb d_Tw_tellOfThree_70 (lv_at hl 9 rfl) ?_
        refine lv_lload hx hb d_Tw_tellOfThree_72 (lv_at hl 1 rfl) ?_
        refine W.lcmp hx hb d_Tw_tellOfThree_74 ?_
        refine lv_if_ge (tgt := 89) hx hb d_Tw_tellOfThree_75 (by decide) (fun c_21 => ?_) (fun c_21 => ?_)
        · have hge : ¬ r1 < 2 ^ n - 1 := fun z => by
            have h9 := (lg_cmp_ge _ _).mp c_21
            rw [pk_lLE (by omega) (by omega)] at h9
            omega
          refine lv_lload hx hb d_Tw_tellOfThree_89 (lv_at hl 9 rfl) ?_
          refine lv_lload hx hb d_Tw_tellOfThree_91 (lv_at hl 1 rfl) ?_
          refine lv_lconst (v := 1) hx hb d_Tw_tellOfThree_93 (by decide) ?_
          refine lv_ladd hx hb d_Tw_tellOfThree_94 ?_
          refine zz_eql (y := lN (2 ^ n - 1 + 1)) (lN_add _ 1) ?_
          refine lv_lsub hx hb d_Tw_tellOfThree_95 ?_
          refine zz_eql (y := lN (r1 - (2 ^ n - 1 + 1))) (lN_sub (by omega)) ?_
          refine lv_lstore (lv' := [(8, .long (lN (r1 - (2 ^ n - 1 + 1)))), (16, .int d), (14, .long (lN (2 ^ n - 1))), (0, .long (lN rest)), (2, .int wh), (3, .int (nI low)), (4, .int (nI (low + n0))), (5, .int p0), (6, .int p1), (7, .int p2), (10, .int f), (11, .int t), (12, .int d), (13, .int (nI (low + n)))]) hx hb d_Tw_tellOfThree_96 hl (by decide) rfl (fun ls hl => ?_)
          refine lv_iload hx hb d_Tw_tellOfThree_98 (lv_at hl 10 rfl) ?_
          refine lv_istore (lv' := [(12, .int f), (8, .long (lN (r1 - (2 ^ n - 1 + 1)))), (16, .int d), (14, .long (lN (2 ^ n - 1))), (0, .long (lN rest)), (2, .int wh), (3, .int (nI low)), (4, .int (nI (low + n0))), (5, .int p0), (6, .int p1), (7, .int p2), (10, .int f), (11, .int t), (13, .int (nI (low + n)))]) hx hb d_Tw_tellOfThree_100 hl (by decide) rfl (fun ls hl => ?_)
          refine lv_iload hx hb d_Tw_tellOfThree_102 (lv_at hl 2 rfl) ?_
          refine lv_istore (lv' := [(10, .int d), (12, .int f), (8, .long (lN (r1 - (2 ^ n - 1 + 1)))), (16, .int d), (14, .long (lN (2 ^ n - 1))), (0, .long (lN rest)), (2, .int wh), (3, .int (nI low)), (4, .int (nI (low + n0))), (5, .int p0), (6, .int p1), (7, .int p2), (11, .int t), (13, .int (nI (low + n)))]) hx hb d_Tw_tellOfThree_104 hl (by decide) rfl (fun ls hl => ?_)
          refine lv_iinc (v := nI (low + n) - 1) (lv' := [(13, .int (nI (low + n) - 1)), (10, .int d), (12, .int f), (8, .long (lN (r1 - (2 ^ n - 1 + 1)))), (16, .int d), (14, .long (lN (2 ^ n - 1))), (0, .long (lN rest)), (2, .int wh), (3, .int (nI low)), (4, .int (nI (low + n0))), (5, .int p0), (6, .int p1), (7, .int p2), (11, .int t)]) hx hb d_Tw_tellOfThree_106 hl (k := 13) rfl ((Int32.sub_eq_add_neg (nI (low + n)) 1).symm) (by decide) rfl (fun ls hl => ?_)
          refine lv_goto (tgt := 21) hx hb d_Tw_tellOfThree_109 (by decide) ?_
          exact ih (r1 - (2 ^ n - 1 + 1)) d t f (by omega) (by omega) (by rw [← hgo]; conv => rhs; rw [tw_three, if_neg hne, if_neg hge]) _ _ ls hP hD hS (lv_sub hl [6, 7, 8, 9, 10, 11, 12, 3, 1, 13, 2, 0] rfl)
        · have hlt : r1 < 2 ^ n - 1 := by
            rcases Nat.lt_or_ge r1 (2 ^ n - 1) with q | q
            · exact q
            · exact absurd ((lg_cmp_ge _ _).mpr (by rw [pk_lLE (by omega) (by omega)]; exact q)) c_21
          refine lv_iload hx hb d_Tw_tellOfThree_78 (lv_at hl 11 rfl) ?_
          refine lv_istore (lv' := [(12, .int t), (16, .int d), (14, .long (lN (2 ^ n - 1))), (0, .long (lN rest)), (2, .int wh), (3, .int (nI low)), (4, .int (nI (low + n0))), (5, .int p0), (6, .int p1), (7, .int p2), (8, .long (lN r1)), (10, .int f), (11, .int t), (13, .int (nI (low + n)))]) hx hb d_Tw_tellOfThree_80 hl (by decide) rfl (fun ls hl => ?_)
          refine lv_iload hx hb d_Tw_tellOfThree_82 (lv_at hl 1 rfl) ?_
          refine lv_istore (lv' := [(11, .int d), (12, .int t), (16, .int d), (14, .long (lN (2 ^ n - 1))), (0, .long (lN rest)), (2, .int wh), (3, .int (nI low)), (4, .int (nI (low + n0))), (5, .int p0), (6, .int p1), (7, .int p2), (8, .long (lN r1)), (10, .int f), (13, .int (nI (low + n)))]) hx hb d_Tw_tellOfThree_84 hl (by decide) rfl (fun ls hl => ?_)
          refine lv_goto (tgt := 106) hx hb d_Tw_tellOfThree_86 (by decide) ?_
          refine lv_iinc (v := nI (low + n) - 1) (lv' := [(13, .int (nI (low + n) - 1)), (11, .int d), (12, .int t), (16, .int d), (14, .long (lN (2 ^ n - 1))), (0, .long (lN rest)), (2, .int wh), (3, .int (nI low)), (4, .int (nI (low + n0))), (5, .int p0), (6, .int p1), (7, .int p2), (8, .long (lN r1)), (10, .int f)]) hx hb d_Tw_tellOfThree_106 hl (k := 13) rfl ((Int32.sub_eq_add_neg (nI (low + n)) 1).symm) (by decide) rfl (fun ls hl => ?_)
          refine lv_goto (tgt := 21) hx hb d_Tw_tellOfThree_109 (by decide) ?_
          exact ih r1 f d t (by omega) h1 (by rw [← hgo]; conv => rhs; rw [tw_three, if_neg hne, if_pos hlt]) _ _ ls hP hD hS (lv_sub hl [5, 6, 7, 8, 9, 10, 11, 12, 13, 1, 2, 0] rfl)
      · have he : r1 = 2 ^ n - 1 := (pk_lEQ (by omega) (by omega)).mp ((lg_cmp_eq _ _).mp c_18)
        refine lv_iload_n hx hb d_Tw_tellOfThree_44 rfl (lv_at hl 2 rfl) ?_
        refine lv_if_ne (tgt := 53) hx hb d_Tw_tellOfThree_45 (by decide) (fun c_19 => ?_) (fun c_19 => ?_)
        · refine lv_iload_n hx hb d_Tw_tellOfThree_53 rfl (lv_at hl 2 rfl) ?_
          refine lv_iconst (v := 1) hx hb d_Tw_tellOfThree_54 (by decide) ?_
          refine lv_icmp_ne (tgt := 63) hx hb d_Tw_tellOfThree_55 (by decide) (fun c_20 => ?_) (fun c_20 => ?_)
          · refine lv_iload hx hb d_Tw_tellOfThree_63 (lv_at hl 10 rfl) ?_
            exact zz_reti C (rfl) hS () (by rw [← hgo, tw_three, if_pos he, if_neg c_19, if_neg c_20]) hP hD d_Tw_tellOfThree_65
          · refine lv_iload hx hb d_Tw_tellOfThree_58 (lv_at hl 9 rfl) ?_
            refine lv_goto (tgt := 65) hx hb d_Tw_tellOfThree_60 (by decide) ?_
            exact zz_reti C (rfl) hS () (by rw [← hgo, tw_three, if_pos he, if_neg c_19, if_pos c_20]) hP hD d_Tw_tellOfThree_65
        · refine lv_iload hx hb d_Tw_tellOfThree_48 (lv_at hl 12 rfl) ?_
          refine lv_goto (tgt := 65) hx hb d_Tw_tellOfThree_50 (by decide) ?_
          exact zz_reti C (rfl) hS () (by rw [← hgo, tw_three, if_pos he, if_pos c_19]) hP hD d_Tw_tellOfThree_65

set_option maxHeartbeats 4000000 in
set_option maxRecDepth 100000 in
theorem c_Tw_tellOfThree (l : Launch) (E : zG) (rest low n0 : Nat) (wh p0 p1 p2 : Int32) (hr0 : rest < 4611686018427387904) (hn0 : low + n0 < 41) : zMet l y_Tw_tellOfThree b_Tw_tellOfThree 17 (some .int) 1 20 0 0 E [.long (lN rest), .int wh, .int (nI low), .int (nI (low + n0)), .int p0, .int p1, .int p2] [] (zQi E (S := Unit) (fun r _ => r = tw_three wh low n0 rest p0 p1 p2) (fun _ => [])) := by
  refine zz_met (by decide +kernel) (Nat.le_of_ble_eq_true rfl) ?_
  intro p e s m below meth c A ls C hin hA hK hst hP hD hl
  obtain ⟨hx, hb, hr, hml, hown, hts, hlk⟩ := id C
  have hS : va_S A s.heap s.heap [] := va_S.rf
  have hl : lv_has ls 17 [(0, .long (lN rest)), (2, .int wh), (3, .int (nI low)), (4, .int (nI (low + n0))), (5, .int p0), (6, .int p1), (7, .int p2)] := hl
  refine lv_lload_n hx hb d_Tw_tellOfThree_0 rfl (lv_at hl 0 rfl) ?_
  refine lv_lstore (lv' := [(8, .long (lN rest)), (0, .long (lN rest)), (2, .int wh), (3, .int (nI low)), (4, .int (nI (low + n0))), (5, .int p0), (6, .int p1), (7, .int p2)]) hx hb d_Tw_tellOfThree_1 hl (by decide) rfl (fun ls hl => ?_)
  refine lv_iload hx hb d_Tw_tellOfThree_3 (lv_at hl 5 rfl) ?_
  refine lv_istore (lv' := [(10, .int p0), (8, .long (lN rest)), (0, .long (lN rest)), (2, .int wh), (3, .int (nI low)), (4, .int (nI (low + n0))), (5, .int p0), (6, .int p1), (7, .int p2)]) hx hb d_Tw_tellOfThree_5 hl (by decide) rfl (fun ls hl => ?_)
  refine lv_iload hx hb d_Tw_tellOfThree_7 (lv_at hl 7 rfl) ?_
  refine lv_istore (lv' := [(11, .int p1), (10, .int p0), (8, .long (lN rest)), (0, .long (lN rest)), (2, .int wh), (3, .int (nI low)), (4, .int (nI (low + n0))), (5, .int p0), (6, .int p1), (7, .int p2)]) hx hb d_Tw_tellOfThree_9 hl (by decide) rfl (fun ls hl => ?_)
  refine lv_iload hx hb d_Tw_tellOfThree_11 (lv_at hl 9 rfl) ?_
  refine lv_istore (lv' := [(12, .int p2), (11, .int p1), (10, .int p0), (8, .long (lN rest)), (0, .long (lN rest)), (2, .int wh), (3, .int (nI low)), (4, .int (nI (low + n0))), (5, .int p0), (6, .int p1), (7, .int p2)]) hx hb d_Tw_tellOfThree_13 hl (by decide) rfl (fun ls hl => ?_)
  refine lv_iload hx hb d_Tw_tellOfThree_15 (lv_at hl 7 rfl) ?_
  refine lv_iconst (v := 1) hx hb d_Tw_tellOfThree_17 (by decide) ?_
  refine lv_isub hx hb d_Tw_tellOfThree_18 ?_
  refine lv_istore (lv' := [(13, .int ((nI (low + n0)) - 1)), (12, .int p2), (11, .int p1), (10, .int p0), (8, .long (lN rest)), (0, .long (lN rest)), (2, .int wh), (3, .int (nI low)), (4, .int (nI (low + n0))), (5, .int p0), (6, .int p1), (7, .int p2)]) hx hb d_Tw_tellOfThree_19 hl (by decide) rfl (fun ls hl => ?_)
  have hl := lv_sub (l' := [(0, .long (lN rest)), (2, .int wh), (3, .int (nI low)), (4, .int (nI (low + n0))), (5, .int p0), (6, .int p1), (7, .int p2), (8, .long (lN rest)), (10, .int p0), (11, .int p1), (12, .int p2), (13, .int (nI (low + n0) - 1))]) hl [5, 6, 7, 8, 9, 10, 11, 4, 3, 2, 1, 0] (rfl)
  exact lp_Tw_tellOfThree C hA hK hst n0 rest p0 p1 p2 hn0 hr0 rfl _ _ ls hP hD hS hl

set_option maxHeartbeats 4000000 in
set_option maxRecDepth 100000 in
theorem c_Tw_lesserFreePeg (l : Launch) (E : zG) (a b : Nat) (ha : a < 4) (hb0 : b < 4) : zMet l y_Tw_lesserFreePeg b_Tw_lesserFreePeg 4 (some .int) 0 0 0 0 E [.int (nI a), .int (nI b)] [] (zQi E (S := Unit) (fun r _ => r = nI (tw_les a b)) (fun _ => [])) := by
  refine zz_met (by decide +kernel) (Nat.le_of_ble_eq_true rfl) ?_
  intro p e s m below meth c A ls C hin hA hK hst hP hD hl
  obtain ⟨hx, hb, hr, hml, hown, hts, hlk⟩ := id C
  have hS : va_S A s.heap s.heap [] := va_S.rf
  have hl : lv_has ls 4 [(0, .int (nI a)), (1, .int (nI b))] := hl
  refine lv_iconst (v := 0) hx hb d_Tw_lesserFreePeg_0 (by decide) ?_
  refine lv_istore_n (lv' := [(2, .int 0), (0, .int (nI a)), (1, .int (nI b))]) hx hb d_Tw_lesserFreePeg_1 rfl hl (by decide) rfl (fun ls hl => ?_)
  refine lv_iconst (v := 0) hx hb d_Tw_lesserFreePeg_2 (by decide) ?_
  refine lv_istore_n (lv' := [(3, .int 0), (2, .int 0), (0, .int (nI a)), (1, .int (nI b))]) hx hb d_Tw_lesserFreePeg_3 rfl hl (by decide) rfl (fun ls hl => ?_)
  refine lv_iload_n hx hb d_Tw_lesserFreePeg_4 rfl (lv_at hl 0 rfl) ?_
  refine lv_iconst (v := 2) hx hb d_Tw_lesserFreePeg_5 (by decide) ?_
  refine lv_icmp_ge (tgt := 28) hx hb d_Tw_lesserFreePeg_6 (by decide) (fun c_22 => ?_) (fun c_22 => ?_)
  · exact absurd c_22 (by decide)
  · refine lv_iload_n hx hb d_Tw_lesserFreePeg_9 rfl (lv_at hl 1 rfl) ?_
    refine lv_iload_n hx hb d_Tw_lesserFreePeg_10 rfl (lv_at hl 2 rfl) ?_
    refine lv_icmp_eq (tgt := 19) hx hb d_Tw_lesserFreePeg_11 (by decide) (fun c_23 => ?_) (fun c_23 => ?_)
    · refine lv_iinc (v := 0 + 1) (lv' := [(2, .int (0 + 1)), (3, .int 0), (0, .int (nI a)), (1, .int (nI b))]) hx hb d_Tw_lesserFreePeg_19 hl (k := 1) rfl (rfl) (by decide) rfl (fun ls hl => ?_)
      refine lv_iinc (v := 0 + 1) (lv' := [(3, .int (0 + 1)), (2, .int (0 + 1)), (0, .int (nI a)), (1, .int (nI b))]) hx hb d_Tw_lesserFreePeg_22 hl (k := 1) rfl (rfl) (by decide) rfl (fun ls hl => ?_)
      refine lv_goto (tgt := 4) hx hb d_Tw_lesserFreePeg_25 (by decide) ?_
      refine lv_iload_n hx hb d_Tw_lesserFreePeg_4 rfl (lv_at hl 0 rfl) ?_
      refine lv_iconst (v := 2) hx hb d_Tw_lesserFreePeg_5 (by decide) ?_
      refine lv_icmp_ge (tgt := 28) hx hb d_Tw_lesserFreePeg_6 (by decide) (fun c_24 => ?_) (fun c_24 => ?_)
      · exact absurd c_24 (by decide)
      · refine lv_iload_n hx hb d_Tw_lesserFreePeg_9 rfl (lv_at hl 1 rfl) ?_
        refine lv_iload_n hx hb d_Tw_lesserFreePeg_10 rfl (lv_at hl 2 rfl) ?_
        refine lv_icmp_eq (tgt := 19) hx hb d_Tw_lesserFreePeg_11 (by decide) (fun c_25 => ?_) (fun c_25 => ?_)
        · refine lv_iinc (v := (0 + 1) + 1) (lv' := [(2, .int ((0 + 1) + 1)), (3, .int (0 + 1)), (0, .int (nI a)), (1, .int (nI b))]) hx hb d_Tw_lesserFreePeg_19 hl (k := 1) rfl (rfl) (by decide) rfl (fun ls hl => ?_)
          refine lv_iinc (v := (0 + 1) + 1) (lv' := [(3, .int ((0 + 1) + 1)), (2, .int ((0 + 1) + 1)), (0, .int (nI a)), (1, .int (nI b))]) hx hb d_Tw_lesserFreePeg_22 hl (k := 1) rfl (rfl) (by decide) rfl (fun ls hl => ?_)
          refine lv_goto (tgt := 4) hx hb d_Tw_lesserFreePeg_25 (by decide) ?_
          refine lv_iload_n hx hb d_Tw_lesserFreePeg_4 rfl (lv_at hl 0 rfl) ?_
          refine lv_iconst (v := 2) hx hb d_Tw_lesserFreePeg_5 (by decide) ?_
          refine lv_icmp_ge (tgt := 28) hx hb d_Tw_lesserFreePeg_6 (by decide) (fun c_26 => ?_) (fun c_26 => ?_)
          · refine lv_iload_n hx hb d_Tw_lesserFreePeg_28 rfl (lv_at hl 1 rfl) ?_
            have n0 : 0 = a := (nI_eq (a := 0) (by decide) (by omega)).mp c_23
            have n1 : 1 = a := (nI_eq (a := 1) (by decide) (by omega)).mp c_25
            have hv : tw_les a b = 2 := by
              unfold tw_les
              split
              · first | omega | (split <;> omega)
              · omega
            exact zz_reti C (rfl) hS () (by rw [hv]; rfl) hP hD d_Tw_lesserFreePeg_29
          · exact absurd (by decide) c_26
        · refine lv_iload_n hx hb d_Tw_lesserFreePeg_14 rfl (lv_at hl 1 rfl) ?_
          refine lv_iload_n hx hb d_Tw_lesserFreePeg_15 rfl (lv_at hl 3 rfl) ?_
          refine lv_icmp_ne (tgt := 22) hx hb d_Tw_lesserFreePeg_16 (by decide) (fun c_27 => ?_) (fun c_27 => ?_)
          · refine lv_iinc (v := (0 + 1) + 1) (lv' := [(3, .int ((0 + 1) + 1)), (2, .int (0 + 1)), (0, .int (nI a)), (1, .int (nI b))]) hx hb d_Tw_lesserFreePeg_22 hl (k := 0) rfl (rfl) (by decide) rfl (fun ls hl => ?_)
            refine lv_goto (tgt := 4) hx hb d_Tw_lesserFreePeg_25 (by decide) ?_
            refine lv_iload_n hx hb d_Tw_lesserFreePeg_4 rfl (lv_at hl 0 rfl) ?_
            refine lv_iconst (v := 2) hx hb d_Tw_lesserFreePeg_5 (by decide) ?_
            refine lv_icmp_ge (tgt := 28) hx hb d_Tw_lesserFreePeg_6 (by decide) (fun c_28 => ?_) (fun c_28 => ?_)
            · refine lv_iload_n hx hb d_Tw_lesserFreePeg_28 rfl (lv_at hl 1 rfl) ?_
              have n0 : 0 = a := (nI_eq (a := 0) (by decide) (by omega)).mp c_23
              have n1 : ¬ 1 = a := fun z => c_25 (by rw [← z]; rfl)
              have n2 : ¬ 1 = b := fun z => c_27 (by rw [← z]; rfl)
              have hv : tw_les a b = 1 := by
                unfold tw_les
                split
                · first | omega | (split <;> omega)
                · omega
              exact zz_reti C (rfl) hS () (by rw [hv]; rfl) hP hD d_Tw_lesserFreePeg_29
            · exact absurd (by decide) c_28
          · refine lv_iinc (v := (0 + 1) + 1) (lv' := [(2, .int ((0 + 1) + 1)), (3, .int (0 + 1)), (0, .int (nI a)), (1, .int (nI b))]) hx hb d_Tw_lesserFreePeg_19 hl (k := 1) rfl (rfl) (by decide) rfl (fun ls hl => ?_)
            refine lv_iinc (v := (0 + 1) + 1) (lv' := [(3, .int ((0 + 1) + 1)), (2, .int ((0 + 1) + 1)), (0, .int (nI a)), (1, .int (nI b))]) hx hb d_Tw_lesserFreePeg_22 hl (k := 1) rfl (rfl) (by decide) rfl (fun ls hl => ?_)
            refine lv_goto (tgt := 4) hx hb d_Tw_lesserFreePeg_25 (by decide) ?_
            refine lv_iload_n hx hb d_Tw_lesserFreePeg_4 rfl (lv_at hl 0 rfl) ?_
            refine lv_iconst (v := 2) hx hb d_Tw_lesserFreePeg_5 (by decide) ?_
            refine lv_icmp_ge (tgt := 28) hx hb d_Tw_lesserFreePeg_6 (by decide) (fun c_29 => ?_) (fun c_29 => ?_)
            · refine lv_iload_n hx hb d_Tw_lesserFreePeg_28 rfl (lv_at hl 1 rfl) ?_
              have n0 : 0 = a := (nI_eq (a := 0) (by decide) (by omega)).mp c_23
              have n1 : ¬ 1 = a := fun z => c_25 (by rw [← z]; rfl)
              have n2 : 1 = b := (nI_eq (a := 1) (by decide) (by omega)).mp c_27
              have hv : tw_les a b = 2 := by
                unfold tw_les
                split
                · first | omega | (split <;> omega)
                · omega
              exact zz_reti C (rfl) hS () (by rw [hv]; rfl) hP hD d_Tw_lesserFreePeg_29
            · exact absurd (by decide) c_29
    · refine lv_iload_n hx hb d_Tw_lesserFreePeg_14 rfl (lv_at hl 1 rfl) ?_
      refine lv_iload_n hx hb d_Tw_lesserFreePeg_15 rfl (lv_at hl 3 rfl) ?_
      refine lv_icmp_ne (tgt := 22) hx hb d_Tw_lesserFreePeg_16 (by decide) (fun c_30 => ?_) (fun c_30 => ?_)
      · refine lv_iinc (v := 0 + 1) (lv' := [(3, .int (0 + 1)), (2, .int 0), (0, .int (nI a)), (1, .int (nI b))]) hx hb d_Tw_lesserFreePeg_22 hl (k := 0) rfl (rfl) (by decide) rfl (fun ls hl => ?_)
        refine lv_goto (tgt := 4) hx hb d_Tw_lesserFreePeg_25 (by decide) ?_
        refine lv_iload_n hx hb d_Tw_lesserFreePeg_4 rfl (lv_at hl 0 rfl) ?_
        refine lv_iconst (v := 2) hx hb d_Tw_lesserFreePeg_5 (by decide) ?_
        refine lv_icmp_ge (tgt := 28) hx hb d_Tw_lesserFreePeg_6 (by decide) (fun c_31 => ?_) (fun c_31 => ?_)
        · exact absurd c_31 (by decide)
        · refine lv_iload_n hx hb d_Tw_lesserFreePeg_9 rfl (lv_at hl 1 rfl) ?_
          refine lv_iload_n hx hb d_Tw_lesserFreePeg_10 rfl (lv_at hl 2 rfl) ?_
          refine lv_icmp_eq (tgt := 19) hx hb d_Tw_lesserFreePeg_11 (by decide) (fun c_32 => ?_) (fun c_32 => ?_)
          · refine lv_iinc (v := 0 + 1) (lv' := [(2, .int (0 + 1)), (3, .int (0 + 1)), (0, .int (nI a)), (1, .int (nI b))]) hx hb d_Tw_lesserFreePeg_19 hl (k := 1) rfl (rfl) (by decide) rfl (fun ls hl => ?_)
            refine lv_iinc (v := (0 + 1) + 1) (lv' := [(3, .int ((0 + 1) + 1)), (2, .int (0 + 1)), (0, .int (nI a)), (1, .int (nI b))]) hx hb d_Tw_lesserFreePeg_22 hl (k := 1) rfl (rfl) (by decide) rfl (fun ls hl => ?_)
            refine lv_goto (tgt := 4) hx hb d_Tw_lesserFreePeg_25 (by decide) ?_
            refine lv_iload_n hx hb d_Tw_lesserFreePeg_4 rfl (lv_at hl 0 rfl) ?_
            refine lv_iconst (v := 2) hx hb d_Tw_lesserFreePeg_5 (by decide) ?_
            refine lv_icmp_ge (tgt := 28) hx hb d_Tw_lesserFreePeg_6 (by decide) (fun c_33 => ?_) (fun c_33 => ?_)
            · refine lv_iload_n hx hb d_Tw_lesserFreePeg_28 rfl (lv_at hl 1 rfl) ?_
              have n0 : ¬ 0 = a := fun z => c_23 (by rw [← z]; rfl)
              have n1 : ¬ 0 = b := fun z => c_30 (by rw [← z]; rfl)
              have n2 : 0 = a := (nI_eq (a := 0) (by decide) (by omega)).mp c_32
              have hv : tw_les a b = 1 := by
                unfold tw_les
                split
                · first | omega | (split <;> omega)
                · omega
              exact zz_reti C (rfl) hS () (by rw [hv]; rfl) hP hD d_Tw_lesserFreePeg_29
            · exact absurd (by decide) c_33
          · refine lv_iload_n hx hb d_Tw_lesserFreePeg_14 rfl (lv_at hl 1 rfl) ?_
            refine lv_iload_n hx hb d_Tw_lesserFreePeg_15 rfl (lv_at hl 3 rfl) ?_
            refine lv_icmp_ne (tgt := 22) hx hb d_Tw_lesserFreePeg_16 (by decide) (fun c_34 => ?_) (fun c_34 => ?_)
            · refine lv_iinc (v := (0 + 1) + 1) (lv' := [(3, .int ((0 + 1) + 1)), (2, .int 0), (0, .int (nI a)), (1, .int (nI b))]) hx hb d_Tw_lesserFreePeg_22 hl (k := 0) rfl (rfl) (by decide) rfl (fun ls hl => ?_)
              refine lv_goto (tgt := 4) hx hb d_Tw_lesserFreePeg_25 (by decide) ?_
              refine lv_iload_n hx hb d_Tw_lesserFreePeg_4 rfl (lv_at hl 0 rfl) ?_
              refine lv_iconst (v := 2) hx hb d_Tw_lesserFreePeg_5 (by decide) ?_
              refine lv_icmp_ge (tgt := 28) hx hb d_Tw_lesserFreePeg_6 (by decide) (fun c_35 => ?_) (fun c_35 => ?_)
              · refine lv_iload_n hx hb d_Tw_lesserFreePeg_28 rfl (lv_at hl 1 rfl) ?_
                have n0 : ¬ 0 = a := fun z => c_23 (by rw [← z]; rfl)
                have n1 : ¬ 0 = b := fun z => c_30 (by rw [← z]; rfl)
                have n2 : ¬ 0 = a := fun z => c_32 (by rw [← z]; rfl)
                have n3 : ¬ 0 = b := fun z => c_34 (by rw [← z]; rfl)
                have hv : tw_les a b = 0 := by
                  unfold tw_les
                  split
                  · first | omega | (split <;> omega)
                  · omega
                exact zz_reti C (rfl) hS () (by rw [hv]; rfl) hP hD d_Tw_lesserFreePeg_29
              · exact absurd (by decide) c_35
            · refine lv_iinc (v := 0 + 1) (lv' := [(2, .int (0 + 1)), (3, .int (0 + 1)), (0, .int (nI a)), (1, .int (nI b))]) hx hb d_Tw_lesserFreePeg_19 hl (k := 1) rfl (rfl) (by decide) rfl (fun ls hl => ?_)
              refine lv_iinc (v := (0 + 1) + 1) (lv' := [(3, .int ((0 + 1) + 1)), (2, .int (0 + 1)), (0, .int (nI a)), (1, .int (nI b))]) hx hb d_Tw_lesserFreePeg_22 hl (k := 1) rfl (rfl) (by decide) rfl (fun ls hl => ?_)
              refine lv_goto (tgt := 4) hx hb d_Tw_lesserFreePeg_25 (by decide) ?_
              refine lv_iload_n hx hb d_Tw_lesserFreePeg_4 rfl (lv_at hl 0 rfl) ?_
              refine lv_iconst (v := 2) hx hb d_Tw_lesserFreePeg_5 (by decide) ?_
              refine lv_icmp_ge (tgt := 28) hx hb d_Tw_lesserFreePeg_6 (by decide) (fun c_36 => ?_) (fun c_36 => ?_)
              · refine lv_iload_n hx hb d_Tw_lesserFreePeg_28 rfl (lv_at hl 1 rfl) ?_
                have n0 : ¬ 0 = a := fun z => c_23 (by rw [← z]; rfl)
                have n1 : ¬ 0 = b := fun z => c_30 (by rw [← z]; rfl)
                have n2 : ¬ 0 = a := fun z => c_32 (by rw [← z]; rfl)
                have n3 : 0 = b := (nI_eq (a := 0) (by decide) (by omega)).mp c_34
                have hv : tw_les a b = 1 := by
                  unfold tw_les
                  split
                  · first | omega | (split <;> omega)
                  · omega
                exact zz_reti C (rfl) hS () (by rw [hv]; rfl) hP hD d_Tw_lesserFreePeg_29
              · exact absurd (by decide) c_36
      · refine lv_iinc (v := 0 + 1) (lv' := [(2, .int (0 + 1)), (3, .int 0), (0, .int (nI a)), (1, .int (nI b))]) hx hb d_Tw_lesserFreePeg_19 hl (k := 1) rfl (rfl) (by decide) rfl (fun ls hl => ?_)
        refine lv_iinc (v := 0 + 1) (lv' := [(3, .int (0 + 1)), (2, .int (0 + 1)), (0, .int (nI a)), (1, .int (nI b))]) hx hb d_Tw_lesserFreePeg_22 hl (k := 1) rfl (rfl) (by decide) rfl (fun ls hl => ?_)
        refine lv_goto (tgt := 4) hx hb d_Tw_lesserFreePeg_25 (by decide) ?_
        refine lv_iload_n hx hb d_Tw_lesserFreePeg_4 rfl (lv_at hl 0 rfl) ?_
        refine lv_iconst (v := 2) hx hb d_Tw_lesserFreePeg_5 (by decide) ?_
        refine lv_icmp_ge (tgt := 28) hx hb d_Tw_lesserFreePeg_6 (by decide) (fun c_37 => ?_) (fun c_37 => ?_)
        · exact absurd c_37 (by decide)
        · refine lv_iload_n hx hb d_Tw_lesserFreePeg_9 rfl (lv_at hl 1 rfl) ?_
          refine lv_iload_n hx hb d_Tw_lesserFreePeg_10 rfl (lv_at hl 2 rfl) ?_
          refine lv_icmp_eq (tgt := 19) hx hb d_Tw_lesserFreePeg_11 (by decide) (fun c_38 => ?_) (fun c_38 => ?_)
          · refine lv_iinc (v := (0 + 1) + 1) (lv' := [(2, .int ((0 + 1) + 1)), (3, .int (0 + 1)), (0, .int (nI a)), (1, .int (nI b))]) hx hb d_Tw_lesserFreePeg_19 hl (k := 1) rfl (rfl) (by decide) rfl (fun ls hl => ?_)
            refine lv_iinc (v := (0 + 1) + 1) (lv' := [(3, .int ((0 + 1) + 1)), (2, .int ((0 + 1) + 1)), (0, .int (nI a)), (1, .int (nI b))]) hx hb d_Tw_lesserFreePeg_22 hl (k := 1) rfl (rfl) (by decide) rfl (fun ls hl => ?_)
            refine lv_goto (tgt := 4) hx hb d_Tw_lesserFreePeg_25 (by decide) ?_
            refine lv_iload_n hx hb d_Tw_lesserFreePeg_4 rfl (lv_at hl 0 rfl) ?_
            refine lv_iconst (v := 2) hx hb d_Tw_lesserFreePeg_5 (by decide) ?_
            refine lv_icmp_ge (tgt := 28) hx hb d_Tw_lesserFreePeg_6 (by decide) (fun c_39 => ?_) (fun c_39 => ?_)
            · refine lv_iload_n hx hb d_Tw_lesserFreePeg_28 rfl (lv_at hl 1 rfl) ?_
              have n0 : ¬ 0 = a := fun z => c_23 (by rw [← z]; rfl)
              have n1 : 0 = b := (nI_eq (a := 0) (by decide) (by omega)).mp c_30
              have n2 : 1 = a := (nI_eq (a := 1) (by decide) (by omega)).mp c_38
              have hv : tw_les a b = 2 := by
                unfold tw_les
                split
                · first | omega | (split <;> omega)
                · omega
              exact zz_reti C (rfl) hS () (by rw [hv]; rfl) hP hD d_Tw_lesserFreePeg_29
            · exact absurd (by decide) c_39
          · refine lv_iload_n hx hb d_Tw_lesserFreePeg_14 rfl (lv_at hl 1 rfl) ?_
            refine lv_iload_n hx hb d_Tw_lesserFreePeg_15 rfl (lv_at hl 3 rfl) ?_
            refine lv_icmp_ne (tgt := 22) hx hb d_Tw_lesserFreePeg_16 (by decide) (fun c_40 => ?_) (fun c_40 => ?_)
            · refine lv_iinc (v := (0 + 1) + 1) (lv' := [(3, .int ((0 + 1) + 1)), (2, .int (0 + 1)), (0, .int (nI a)), (1, .int (nI b))]) hx hb d_Tw_lesserFreePeg_22 hl (k := 0) rfl (rfl) (by decide) rfl (fun ls hl => ?_)
              refine lv_goto (tgt := 4) hx hb d_Tw_lesserFreePeg_25 (by decide) ?_
              refine lv_iload_n hx hb d_Tw_lesserFreePeg_4 rfl (lv_at hl 0 rfl) ?_
              refine lv_iconst (v := 2) hx hb d_Tw_lesserFreePeg_5 (by decide) ?_
              refine lv_icmp_ge (tgt := 28) hx hb d_Tw_lesserFreePeg_6 (by decide) (fun c_41 => ?_) (fun c_41 => ?_)
              · refine lv_iload_n hx hb d_Tw_lesserFreePeg_28 rfl (lv_at hl 1 rfl) ?_
                have n0 : ¬ 0 = a := fun z => c_23 (by rw [← z]; rfl)
                have n1 : 0 = b := (nI_eq (a := 0) (by decide) (by omega)).mp c_30
                have n2 : ¬ 1 = a := fun z => c_38 (by rw [← z]; rfl)
                have n3 : ¬ 1 = b := fun z => c_40 (by rw [← z]; rfl)
                have hv : tw_les a b = 1 := by
                  unfold tw_les
                  split
                  · first | omega | (split <;> omega)
                  · omega
                exact zz_reti C (rfl) hS () (by rw [hv]; rfl) hP hD d_Tw_lesserFreePeg_29
              · exact absurd (by decide) c_41
            · refine lv_iinc (v := (0 + 1) + 1) (lv' := [(2, .int ((0 + 1) + 1)), (3, .int (0 + 1)), (0, .int (nI a)), (1, .int (nI b))]) hx hb d_Tw_lesserFreePeg_19 hl (k := 1) rfl (rfl) (by decide) rfl (fun ls hl => ?_)
              refine lv_iinc (v := (0 + 1) + 1) (lv' := [(3, .int ((0 + 1) + 1)), (2, .int ((0 + 1) + 1)), (0, .int (nI a)), (1, .int (nI b))]) hx hb d_Tw_lesserFreePeg_22 hl (k := 1) rfl (rfl) (by decide) rfl (fun ls hl => ?_)
              refine lv_goto (tgt := 4) hx hb d_Tw_lesserFreePeg_25 (by decide) ?_
              refine lv_iload_n hx hb d_Tw_lesserFreePeg_4 rfl (lv_at hl 0 rfl) ?_
              refine lv_iconst (v := 2) hx hb d_Tw_lesserFreePeg_5 (by decide) ?_
              refine lv_icmp_ge (tgt := 28) hx hb d_Tw_lesserFreePeg_6 (by decide) (fun c_42 => ?_) (fun c_42 => ?_)
              · refine lv_iload_n hx hb d_Tw_lesserFreePeg_28 rfl (lv_at hl 1 rfl) ?_
                have n0 : ¬ 0 = a := fun z => c_23 (by rw [← z]; rfl)
                have n1 : 0 = b := (nI_eq (a := 0) (by decide) (by omega)).mp c_30
                have n2 : ¬ 1 = a := fun z => c_38 (by rw [← z]; rfl)
                have n3 : 1 = b := (nI_eq (a := 1) (by decide) (by omega)).mp c_40
                have hv : tw_les a b = 2 := by
                  unfold tw_les
                  split
                  · first | omega | (split <;> omega)
                  · omega
                exact zz_reti C (rfl) hS () (by rw [hv]; rfl) hP hD d_Tw_lesserFreePeg_29
              · exact absurd (by decide) c_42

set_option maxHeartbeats 4000000 in
set_option maxRecDepth 100000 in
theorem lp_Tw_tellOfFour {p : Program} {l : Launch} {e : Env} {s : State} {m : MethodId} {below : List Frame} {meth : Method} {c : Code} {A : Nat → Prop}  {E : zG} {h0 e1 e2 pg ds : Nat} {f4 : Nat → Int64} {fo : Nat → Int32} {rest : Nat} {wh : Int32} (hT : ∀ j, j < 41 → f4 j = lN (tw_F j) ∧ fo j = nI (tw_K j)) (C : cx p s m #[.ref h0, .long (lN rest), .int wh] meth c b_Tw_tellOfFour 17 y_Tw_tellOfFour.cls (some .int)) (hA : ∀ q, s.heap.size ≤ q → A q) (hK : kt E s) (hst : stt A s s.heap) :
    ∀ (f i n r1 fr to : Nat) (_ : i + f = 40) (_ : n ≤ 40) (_ : r1 < 4611686018427387904) (_ : fr < 4) (_ : to < 4) (_ : fr ≠ to) (_ : tw_four wh f n r1 fr to = tw_four wh 40 ds rest 0 1) (H : Heap) (locs : List Loc) (ls : Array Slot), va_P E.1 vwCl [(h0, .inr (5, [.ref e1, .ref e2, .int (nI pg), .int (nI ds)])), (e1, zL E 41 f4), (e2, zI E 41 fo)] H → va_D A [(h0, .inr (5, [.ref e1, .ref e2, .int (nI pg), .int (nI ds)])), (e1, zL E 41 f4), (e2, zI E 41 fo)] → va_S A s.heap H locs → lv_has ls 17 [(0, .ref h0), (1, .long (lN rest)), (3, .int wh), (4, .long (lN r1)), (6, .int (nI n)), (7, .int (nI fr)), (8, .int (nI to)), (9, .int (nI i))] → W p l e (zR 2 56 0 0) s m #[.ref h0, .long (lN rest), .int wh] below meth c H locs 0 0 (MQ below ((zQi E (S := Unit) (fun r _ => r = tw_four wh 40 ds rest 0 1) (fun _ => [(h0, .inr (5, [.ref e1, .ref e2, .int (nI pg), .int (nI ds)])), (e1, zL E 41 f4), (e2, zI E 41 fo)])) A) #[.ref h0, .long (lN rest), .int wh] s 0 0 A) (F0 m 18 ls []) := by
  obtain ⟨hx, hb, hr, hml, hown, hts, hlk⟩ := id C
  intro f
  induction f with
  | zero =>
    intro i n r1 fr to hi hn h1 hf ht hft hgo H locs ls hP hD hS hl
    have hi : i = 40 := by omega
    subst hi
    refine lv_iload hx hb d_Tw_tellOfFour_18 (lv_at hl 7 rfl) ?_
    refine lv_bipush (v := 40) hx hb d_Tw_tellOfFour_20 (by decide) ?_
    refine lv_icmp_ge (tgt := 142) hx hb d_Tw_tellOfFour_22 (by decide) (fun c_43 => ?_) (fun c_43 => ?_)
    · refine lv_iconst (v := (-1)) hx hb d_Tw_tellOfFour_142 (by decide) ?_
      exact zz_reti C (rfl) hS () (hgo) hP hD d_Tw_tellOfFour_143
    · exact absurd (by decide) c_43
  | succ f ih =>
    intro i n r1 fr to hi hn h1 hf ht hft hgo H locs ls hP hD hS hl
    refine lv_iload hx hb d_Tw_tellOfFour_18 (lv_at hl 7 rfl) ?_
    refine lv_bipush (v := 40) hx hb d_Tw_tellOfFour_20 (by decide) ?_
    refine lv_icmp_ge (tgt := 142) hx hb d_Tw_tellOfFour_22 (by decide) (fun c_44 => ?_) (fun c_44 => ?_)
    · exact absurd c_44 (nI_ge (b := 40) (by omega) (by decide))
    · refine lv_iload hx hb d_Tw_tellOfFour_25 (lv_at hl 4 rfl) ?_
      refine lv_if_le (tgt := 142) hx hb d_Tw_tellOfFour_27 (by decide) (fun c_45 => ?_) (fun c_45 => ?_)
      · have hn0 : n = 0 := by
          rcases Nat.eq_zero_or_pos n with q | q
          · exact q
          · exact absurd c_45 (nI_nle q (by omega))
        refine lv_iconst (v := (-1)) hx hb d_Tw_tellOfFour_142 (by decide) ?_
        exact zz_reti C (rfl) hS () (by rw [← hgo, tw_four, if_pos hn0]) hP hD d_Tw_tellOfFour_143
      · have hn0 : ¬ n = 0 := fun z => c_45 (by rw [z]; decide)
        have hq := hT n (by omega)
        have hk := tw_F_lt n (by omega)
        have hkn : tw_K n < n := hk.2.2 (by omega)
        have hq2 := hT (tw_K n) (by omega)
        have hk2 := tw_F_lt (tw_K n) (by omega)
        refine lv_aload_n hx hb d_Tw_tellOfFour_30 rfl (lv_at hl 0 rfl) ?_
        refine zz_get C hK hP fl_Tw_15 0 rfl rfl d_Tw_tellOfFour_31 ?_
        refine lv_iload hx hb d_Tw_tellOfFour_34 (lv_at hl 4 rfl) ?_
        refine zz_ialdN C hK hP 2 rfl (j := n) (by omega) (by omega) d_Tw_tellOfFour_36 ?_
        refine zz_eqi (y := nI (tw_K n)) (hq.2) ?_
        refine lv_istore (lv' := [(10, .int (nI (tw_K n))), (0, .ref h0), (1, .long (lN rest)), (3, .int wh), (4, .long (lN r1)), (6, .int (nI n)), (7, .int (nI fr)), (8, .int (nI to)), (9, .int (nI i))]) hx hb d_Tw_tellOfFour_37 hl (by decide) rfl (fun ls hl => ?_)
        refine lv_iload hx hb d_Tw_tellOfFour_39 (lv_at hl 6 rfl) ?_
        refine lv_iload hx hb d_Tw_tellOfFour_41 (lv_at hl 7 rfl) ?_
        refine zz_goi (wr := [(h0, .inr (5, [.ref e1, .ref e2, .int (nI pg), .int (nI ds)])), (e1, zL E 41 f4), (e2, zI E 41 fo)]) [] [0, 1, 2] rfl rfl (by decide) (by decide) hA hP hD hS (zz_runS (wc := []) (As := [.int (nI fr), .int (nI to)]) (rest := []) C (c_Tw_lesserFreePeg l E fr to hf ht) ym_Tw_lesserFreePeg wd_ml_Tw_48 wd_st_Tw_lesserFreePeg [] (by decide) rfl hA hK hst hP hD hS rfl hl.1 rfl (Nat.le_of_ble_eq_true rfl) ⟨Nat.le_of_ble_eq_true rfl, Nat.le_of_ble_eq_true rfl⟩ ⟨Nat.le_of_ble_eq_true rfl, Nat.le_of_ble_eq_true rfl⟩ d_Tw_tellOfFour_43) (fun r_46 u H locs hw hP hD hS => ?_)
        have hP : va_P E.1 vwCl [(h0, .inr (5, [.ref e1, .ref e2, .int (nI pg), .int (nI ds)])), (e1, zL E 41 f4), (e2, zI E 41 fo)] H := hP
        have hD : va_D A [(h0, .inr (5, [.ref e1, .ref e2, .int (nI pg), .int (nI ds)])), (e1, zL E 41 f4), (e2, zI E 41 fo)] := hD
        subst hw
        have hle := tw_lesE fr hf to ht
        have hsx := tw_six fr hf to ht hft
        have hpw := tw_pow (n := n - tw_K n) (by omega)
        refine lv_istore (lv' := [(11, .int (nI (tw_les fr to))), (10, .int (nI (tw_K n))), (0, .ref h0), (1, .long (lN rest)), (3, .int wh), (4, .long (lN r1)), (6, .int (nI n)), (7, .int (nI fr)), (8, .int (nI to)), (9, .int (nI i))]) hx hb d_Tw_tellOfFour_46 hl (by decide) rfl (fun ls hl => ?_)
        refine lv_lload hx hb d_Tw_tellOfFour_48 (lv_at hl 5 rfl) ?_
        refine lv_aload_n hx hb d_Tw_tellOfFour_50 rfl (lv_at hl 2 rfl) ?_
        refine zz_get C hK hP fl_Tw_11 0 rfl rfl d_Tw_tellOfFour_51 ?_
        refine lv_iload hx hb d_Tw_tellOfFour_54 (lv_at hl 1 rfl) ?_
        refine zz_laldN C hK hP 1 rfl (j := (tw_K n)) (by omega) (by omega) d_Tw_tellOfFour_56 ?_
        refine zz_eql (y := lN (tw_F (tw_K n))) (hq2.1) ?_
        rcases Nat.lt_or_ge r1 (tw_F (tw_K n)) with hlt | hge
        · refine lv_lsub hx hb d_Tw_tellOfFour_57 ?_
          refine lv_topl (fun md_47 emd_47 => ?_)
          refine lv_lstore (lv' := [(12, .long md_47), (11, .int (nI (tw_les fr to))), (10, .int (nI (tw_K n))), (0, .ref h0), (1, .long (lN rest)), (3, .int wh), (4, .long (lN r1)), (6, .int (nI n)), (7, .int (nI fr)), (8, .int (nI to)), (9, .int (nI i))]) hx hb d_Tw_tellOfFour_58 hl (by decide) rfl (fun ls hl => ?_)
          refine lv_lload hx hb d_Tw_tellOfFour_60 (lv_at hl 0 rfl) ?_
          refine lv_iload hx hb d_Tw_tellOfFour_62 (lv_at hl 7 rfl) ?_
          refine lv_iload hx hb d_Tw_tellOfFour_64 (lv_at hl 2 rfl) ?_
          refine lv_isub hx hb d_Tw_tellOfFour_66 ?_
          refine zz_eqi (y := nI (n - tw_K n)) (pk_sub (by omega)) ?_
          refine zz_gol (wr := [(h0, .inr (5, [.ref e1, .ref e2, .int (nI pg), .int (nI ds)])), (e1, zL E 41 f4), (e2, zI E 41 fo)]) [] [0, 1, 2] rfl rfl (by decide) (by decide) hA hP hD hS (zz_runS (wc := []) (As := [.int (nI (n - tw_K n))]) (rest := [.long md_47]) C (c_Tw_threePegMoves l E (n - tw_K n) (by omega)) ym_Tw_threePegMoves wd_ml_Tw_29 wd_st_Tw_threePegMoves [] (by decide) rfl hA hK hst hP hD hS rfl hl.1 rfl (Nat.le_of_ble_eq_true rfl) ⟨Nat.le_of_ble_eq_true rfl, Nat.le_of_ble_eq_true rfl⟩ ⟨Nat.le_of_ble_eq_true rfl, Nat.le_of_ble_eq_true rfl⟩ d_Tw_tellOfFour_67) (fun r_48 u H locs hw hP hD hS => ?_)
          have hP : va_P E.1 vwCl [(h0, .inr (5, [.ref e1, .ref e2, .int (nI pg), .int (nI ds)])), (e1, zL E 41 f4), (e2, zI E 41 fo)] H := hP
          have hD : va_D A [(h0, .inr (5, [.ref e1, .ref e2, .int (nI pg), .int (nI ds)])), (e1, zL E 41 f4), (e2, zI E 41 fo)] := hD
          subst hw
          refine lv_lsub hx hb d_Tw_tellOfFour_70 ?_
          refine lv_lstore (lv' := [(14, .long (md_47 - (lN (2 ^ (n - tw_K n) - 1)))), (12, .long md_47), (11, .int (nI (tw_les fr to))), (10, .int (nI (tw_K n))), (0, .ref h0), (1, .long (lN rest)), (3, .int wh), (4, .long (lN r1)), (6, .int (nI n)), (7, .int (nI fr)), (8, .int (nI to)), (9, .int (nI i))]) hx hb d_Tw_tellOfFour_71 hl (by decide) rfl (fun ls hl => ?_)
          refine lv_lload hx hb d_Tw_tellOfFour_73 (lv_at hl 1 rfl) ?_
          refine lv_lconst (v := 0) hx hb d_Tw_tellOfFour_75 (by decide) ?_
          refine W.lcmp hx hb d_Tw_tellOfFour_76 ?_
          refine lv_if_ge (tgt := 87) hx hb d_Tw_tellOfFour_77 (by decide) (fun c_49 => ?_) (fun c_49 => ?_)
          · exact absurd ((lg_cmp_ge _ _).mp c_49) (by rw [emd_47]; exact zz_lneg hlt (by omega))
          · refine lv_iload hx hb d_Tw_tellOfFour_80 (lv_at hl 2 rfl) ?_
            refine lv_istore (lv' := [(8, .int (nI (tw_les fr to))), (14, .long (md_47 - (lN (2 ^ (n - tw_K n) - 1)))), (12, .long md_47), (11, .int (nI (tw_les fr to))), (10, .int (nI (tw_K n))), (0, .ref h0), (1, .long (lN rest)), (3, .int wh), (4, .long (lN r1)), (6, .int (nI n)), (7, .int (nI fr)), (9, .int (nI i))]) hx hb d_Tw_tellOfFour_82 hl (by decide) rfl (fun ls hl => ?_)
            refine lv_goto (tgt := 132) hx hb d_Tw_tellOfFour_84 (by decide) ?_
            refine lv_iload hx hb d_Tw_tellOfFour_132 (lv_at hl 4 rfl) ?_
            refine lv_istore (lv' := [(6, .int (nI (tw_K n))), (8, .int (nI (tw_les fr to))), (14, .long (md_47 - (lN (2 ^ (n - tw_K n) - 1)))), (12, .long md_47), (11, .int (nI (tw_les fr to))), (10, .int (nI (tw_K n))), (0, .ref h0), (1, .long (lN rest)), (3, .int wh), (4, .long (lN r1)), (7, .int (nI fr)), (9, .int (nI i))]) hx hb d_Tw_tellOfFour_134 hl (by decide) rfl (fun ls hl => ?_)
            refine lv_iinc (v := nI (i + 1)) (lv' := [(9, .int (nI (i + 1))), (6, .int (nI (tw_K n))), (8, .int (nI (tw_les fr to))), (14, .long (md_47 - (lN (2 ^ (n - tw_K n) - 1)))), (12, .long md_47), (11, .int (nI (tw_les fr to))), (10, .int (nI (tw_K n))), (0, .ref h0), (1, .long (lN rest)), (3, .int wh), (4, .long (lN r1)), (7, .int (nI fr))]) hx hb d_Tw_tellOfFour_136 hl (k := 11) rfl (nI_1 _) (by decide) rfl (fun ls hl => ?_)
            refine lv_goto (tgt := 18) hx hb d_Tw_tellOfFour_139 (by decide) ?_
            exact ih (i + 1) (tw_K n) r1 fr (tw_les fr to) (by omega) (by omega) h1 hf (by omega) (fun z => hsx.1 z.symm) (by rw [← hgo]; conv => rhs; rw [tw_four, if_neg hn0, if_pos hlt]) _ _ ls hP hD hS (lv_sub hl [7, 8, 9, 10, 1, 11, 2, 0] rfl)
        · refine lv_lsub hx hb d_Tw_tellOfFour_57 ?_
          refine zz_eql (y := lN (r1 - tw_F (tw_K n))) (lN_sub hge) ?_
          refine lv_lstore (lv' := [(12, .long (lN (r1 - tw_F (tw_K n)))), (11, .int (nI (tw_les fr to))), (10, .int (nI (tw_K n))), (0, .ref h0), (1, .long (lN rest)), (3, .int wh), (4, .long (lN r1)), (6, .int (nI n)), (7, .int (nI fr)), (8, .int (nI to)), (9, .int (nI i))]) hx hb d_Tw_tellOfFour_58 hl (by decide) rfl (fun ls hl => ?_)
          refine lv_lload hx hb d_Tw_tellOfFour_60 (lv_at hl 0 rfl) ?_
          refine lv_iload hx hb d_Tw_tellOfFour_62 (lv_at hl 7 rfl) ?_
          refine lv_iload hx hb d_Tw_tellOfFour_64 (lv_at hl 2 rfl) ?_
          refine lv_isub hx hb d_Tw_tellOfFour_66 ?_
          refine zz_eqi (y := nI (n - tw_K n)) (pk_sub (by omega)) ?_
          refine zz_gol (wr := [(h0, .inr (5, [.ref e1, .ref e2, .int (nI pg), .int (nI ds)])), (e1, zL E 41 f4), (e2, zI E 41 fo)]) [] [0, 1, 2] rfl rfl (by decide) (by decide) hA hP hD hS (zz_runS (wc := []) (As := [.int (nI (n - tw_K n))]) (rest := [.long (lN (r1 - tw_F (tw_K n)))]) C (c_Tw_threePegMoves l E (n - tw_K n) (by omega)) ym_Tw_threePegMoves wd_ml_Tw_29 wd_st_Tw_threePegMoves [] (by decide) rfl hA hK hst hP hD hS rfl hl.1 rfl (Nat.le_of_ble_eq_true rfl) ⟨Nat.le_of_ble_eq_true rfl, Nat.le_of_ble_eq_true rfl⟩ ⟨Nat.le_of_ble_eq_true rfl, Nat.le_of_ble_eq_true rfl⟩ d_Tw_tellOfFour_67) (fun r_50 u H locs hw hP hD hS => ?_)
          have hP : va_P E.1 vwCl [(h0, .inr (5, [.ref e1, .ref e2, .int (nI pg), .int (nI ds)])), (e1, zL E 41 f4), (e2, zI E 41 fo)] H := hP
          have hD : va_D A [(h0, .inr (5, [.ref e1, .ref e2, .int (nI pg), .int (nI ds)])), (e1, zL E 41 f4), (e2, zI E 41 fo)] := hD
          subst hw
          rcases Nat.lt_or_ge (r1 - tw_F (tw_K n)) (2 ^ (n - tw_K n) - 1) with hl2 | hg2
          · refine lv_lsub hx hb d_Tw_tellOfFour_70 ?_
            refine lv_topl (fun bh_51 ebh_51 => ?_)
            refine lv_lstore (lv' := [(14, .long bh_51), (12, .long (lN (r1 - tw_F (tw_K n)))), (11, .int (nI (tw_les fr to))), (10, .int (nI (tw_K n))), (0, .ref h0), (1, .long (lN rest)), (3, .int wh), (4, .long (lN r1)), (6, .int (nI n)), (7, .int (nI fr)), (8, .int (nI to)), (9, .int (nI i))]) hx hb d_Tw_tellOfFour_71 hl (by decide) rfl (fun ls hl => ?_)
            refine lv_lload hx hb d_Tw_tellOfFour_73 (lv_at hl 1 rfl) ?_
            refine lv_lconst (v := 0) hx hb d_Tw_tellOfFour_75 (by decide) ?_
            refine W.lcmp hx hb d_Tw_tellOfFour_76 ?_
            refine lv_if_ge (tgt := 87) hx hb d_Tw_tellOfFour_77 (by decide) (fun c_52 => ?_) (fun c_52 => ?_)
            · refine lv_lload hx hb d_Tw_tellOfFour_87 (lv_at hl 0 rfl) ?_
              refine lv_lconst (v := 0) hx hb d_Tw_tellOfFour_89 (by decide) ?_
              refine W.lcmp hx hb d_Tw_tellOfFour_90 ?_
              refine lv_if_ge (tgt := 124) hx hb d_Tw_tellOfFour_91 (by decide) (fun c_53 => ?_) (fun c_53 => ?_)
              · exact absurd ((lg_cmp_ge _ _).mp c_53) (by rw [ebh_51]; exact zz_lneg hl2 (by omega))
              · refine lv_bipush (v := 6) hx hb d_Tw_tellOfFour_94 (by decide) ?_
                refine lv_iload hx hb d_Tw_tellOfFour_96 (lv_at hl 9 rfl) ?_
                refine lv_isub hx hb d_Tw_tellOfFour_98 ?_
                refine lv_iload hx hb d_Tw_tellOfFour_99 (lv_at hl 10 rfl) ?_
                refine lv_isub hx hb d_Tw_tellOfFour_101 ?_
                refine lv_iload hx hb d_Tw_tellOfFour_102 (lv_at hl 2 rfl) ?_
                refine lv_isub hx hb d_Tw_tellOfFour_104 ?_
                refine zz_eqi (y := nI (6 - fr - to - tw_les fr to)) (hsx.2.2) ?_
                refine lv_istore (lv' := [(16, .int (nI (6 - fr - to - tw_les fr to))), (14, .long bh_51), (12, .long (lN (r1 - tw_F (tw_K n)))), (11, .int (nI (tw_les fr to))), (10, .int (nI (tw_K n))), (0, .ref h0), (1, .long (lN rest)), (3, .int wh), (4, .long (lN r1)), (6, .int (nI n)), (7, .int (nI fr)), (8, .int (nI to)), (9, .int (nI i))]) hx hb d_Tw_tellOfFour_105 hl (by decide) rfl (fun ls hl => ?_)
                refine lv_lload hx hb d_Tw_tellOfFour_107 (lv_at hl 2 rfl) ?_
                refine lv_iload_n hx hb d_Tw_tellOfFour_109 rfl (lv_at hl 7 rfl) ?_
                refine lv_iload hx hb d_Tw_tellOfFour_110 (lv_at hl 4 rfl) ?_
                refine lv_iload hx hb d_Tw_tellOfFour_112 (lv_at hl 9 rfl) ?_
                refine lv_iload hx hb d_Tw_tellOfFour_114 (lv_at hl 10 rfl) ?_
                refine lv_iload hx hb d_Tw_tellOfFour_116 (lv_at hl 11 rfl) ?_
                refine lv_iload hx hb d_Tw_tellOfFour_118 (lv_at hl 0 rfl) ?_
                rw [show F0 m 120 ls [.int (nI (6 - fr - to - tw_les fr to)), .int (nI to), .int (nI fr), .int (nI n), .int (nI (tw_K n)), .int wh, .long (lN (r1 - tw_F (tw_K n)))] = F0 m 120 ls [.int (nI (6 - fr - to - tw_les fr to)), .int (nI to), .int (nI fr), .int (nI (tw_K n + (n - tw_K n))), .int (nI (tw_K n)), .int wh, .long (lN (r1 - tw_F (tw_K n)))] from by rw [Nat.add_sub_cancel' (Nat.le_of_lt hkn)]]
                refine zz_goi (wr := [(h0, .inr (5, [.ref e1, .ref e2, .int (nI pg), .int (nI ds)])), (e1, zL E 41 f4), (e2, zI E 41 fo)]) [] [0, 1, 2] rfl rfl (by decide) (by decide) hA hP hD hS (zz_runS (wc := []) (As := [.long (lN (r1 - tw_F (tw_K n))), .int wh, .int (nI (tw_K n)), .int (nI (tw_K n + (n - tw_K n))), .int (nI fr), .int (nI to), .int (nI (6 - fr - to - tw_les fr to))]) (rest := []) C (c_Tw_tellOfThree l E (r1 - tw_F (tw_K n)) (tw_K n) (n - tw_K n) wh (nI fr) (nI to) (nI (6 - fr - to - tw_les fr to)) (by omega) (by omega)) ym_Tw_tellOfThree wd_ml_Tw_40 wd_st_Tw_tellOfThree [] (by decide) rfl hA hK hst hP hD hS rfl hl.1 rfl (Nat.le_of_ble_eq_true rfl) ⟨Nat.le_of_ble_eq_true rfl, Nat.le_of_ble_eq_true rfl⟩ ⟨Nat.le_of_ble_eq_true rfl, Nat.le_of_ble_eq_true rfl⟩ d_Tw_tellOfFour_120) (fun r9 u H locs hw9 hP hD hS => ?_)
                have hP : va_P E.1 vwCl [(h0, .inr (5, [.ref e1, .ref e2, .int (nI pg), .int (nI ds)])), (e1, zL E 41 f4), (e2, zI E 41 fo)] H := hP
                have hD : va_D A [(h0, .inr (5, [.ref e1, .ref e2, .int (nI pg), .int (nI ds)])), (e1, zL E 41 f4), (e2, zI E 41 fo)] := hD
                exact zz_reti C (rfl) hS () (by rw [hw9, ← hgo, tw_four, if_neg hn0, if_neg (Nat.not_lt.mpr hge), if_pos hl2]) hP hD d_Tw_tellOfFour_123
            · exact absurd ((lg_cmp_ge _ _).mpr (by rw [show (0 : Int64) = lN 0 from rfl, pk_lLE (by decide) (by omega)]; exact Nat.zero_le _)) c_52
          · refine lv_lsub hx hb d_Tw_tellOfFour_70 ?_
            refine zz_eql (y := lN (r1 - tw_F (tw_K n) - (2 ^ (n - tw_K n) - 1))) (lN_sub hg2) ?_
            refine lv_lstore (lv' := [(14, .long (lN (r1 - tw_F (tw_K n) - (2 ^ (n - tw_K n) - 1)))), (12, .long (lN (r1 - tw_F (tw_K n)))), (11, .int (nI (tw_les fr to))), (10, .int (nI (tw_K n))), (0, .ref h0), (1, .long (lN rest)), (3, .int wh), (4, .long (lN r1)), (6, .int (nI n)), (7, .int (nI fr)), (8, .int (nI to)), (9, .int (nI i))]) hx hb d_Tw_tellOfFour_71 hl (by decide) rfl (fun ls hl => ?_)
            refine lv_lload hx hb d_Tw_tellOfFour_73 (lv_at hl 1 rfl) ?_
            refine lv_lconst (v := 0) hx hb d_Tw_tellOfFour_75 (by decide) ?_
            refine W.lcmp hx hb d_Tw_tellOfFour_76 ?_
            refine lv_if_ge (tgt := 87) hx hb d_Tw_tellOfFour_77 (by decide) (fun c_54 => ?_) (fun c_54 => ?_)
            · refine lv_lload hx hb d_Tw_tellOfFour_87 (lv_at hl 0 rfl) ?_
              refine lv_lconst (v := 0) hx hb d_Tw_tellOfFour_89 (by decide) ?_
              refine W.lcmp hx hb d_Tw_tellOfFour_90 ?_
              refine lv_if_ge (tgt := 124) hx hb d_Tw_tellOfFour_91 (by decide) (fun c_55 => ?_) (fun c_55 => ?_)
              · refine lv_lload hx hb d_Tw_tellOfFour_124 (lv_at hl 0 rfl) ?_
                refine lv_lstore (lv' := [(4, .long (lN (r1 - tw_F (tw_K n) - (2 ^ (n - tw_K n) - 1)))), (14, .long (lN (r1 - tw_F (tw_K n) - (2 ^ (n - tw_K n) - 1)))), (12, .long (lN (r1 - tw_F (tw_K n)))), (11, .int (nI (tw_les fr to))), (10, .int (nI (tw_K n))), (0, .ref h0), (1, .long (lN rest)), (3, .int wh), (6, .int (nI n)), (7, .int (nI fr)), (8, .int (nI to)), (9, .int (nI i))]) hx hb d_Tw_tellOfFour_126 hl (by decide) rfl (fun ls hl => ?_)
                refine lv_iload hx hb d_Tw_tellOfFour_128 (lv_at hl 3 rfl) ?_
                refine lv_istore (lv' := [(7, .int (nI (tw_les fr to))), (4, .long (lN (r1 - tw_F (tw_K n) - (2 ^ (n - tw_K n) - 1)))), (14, .long (lN (r1 - tw_F (tw_K n) - (2 ^ (n - tw_K n) - 1)))), (12, .long (lN (r1 - tw_F (tw_K n)))), (11, .int (nI (tw_les fr to))), (10, .int (nI (tw_K n))), (0, .ref h0), (1, .long (lN rest)), (3, .int wh), (6, .int (nI n)), (8, .int (nI to)), (9, .int (nI i))]) hx hb d_Tw_tellOfFour_130 hl (by decide) rfl (fun ls hl => ?_)
                refine lv_iload hx hb d_Tw_tellOfFour_132 (lv_at hl 5 rfl) ?_
                refine lv_istore (lv' := [(6, .int (nI (tw_K n))), (7, .int (nI (tw_les fr to))), (4, .long (lN (r1 - tw_F (tw_K n) - (2 ^ (n - tw_K n) - 1)))), (14, .long (lN (r1 - tw_F (tw_K n) - (2 ^ (n - tw_K n) - 1)))), (12, .long (lN (r1 - tw_F (tw_K n)))), (11, .int (nI (tw_les fr to))), (10, .int (nI (tw_K n))), (0, .ref h0), (1, .long (lN rest)), (3, .int wh), (8, .int (nI to)), (9, .int (nI i))]) hx hb d_Tw_tellOfFour_134 hl (by decide) rfl (fun ls hl => ?_)
                refine lv_iinc (v := nI (i + 1)) (lv' := [(9, .int (nI (i + 1))), (6, .int (nI (tw_K n))), (7, .int (nI (tw_les fr to))), (4, .long (lN (r1 - tw_F (tw_K n) - (2 ^ (n - tw_K n) - 1)))), (14, .long (lN (r1 - tw_F (tw_K n) - (2 ^ (n - tw_K n) - 1)))), (12, .long (lN (r1 - tw_F (tw_K n)))), (11, .int (nI (tw_les fr to))), (10, .int (nI (tw_K n))), (0, .ref h0), (1, .long (lN rest)), (3, .int wh), (8, .int (nI to))]) hx hb d_Tw_tellOfFour_136 hl (k := 11) rfl (nI_1 _) (by decide) rfl (fun ls hl => ?_)
                refine lv_goto (tgt := 18) hx hb d_Tw_tellOfFour_139 (by decide) ?_
                exact ih (i + 1) (tw_K n) (r1 - tw_F (tw_K n) - (2 ^ (n - tw_K n) - 1)) (tw_les fr to) to (by omega) (by omega) (by omega) (by omega) ht hsx.2.1 (by rw [← hgo]; conv => rhs; rw [tw_four, if_neg hn0, if_neg (Nat.not_lt.mpr hge), if_neg (Nat.not_lt.mpr hg2)]) _ _ ls hP hD hS (lv_sub hl [8, 9, 10, 3, 1, 2, 11, 0] rfl)
              · exact absurd ((lg_cmp_ge _ _).mpr (by rw [show (0 : Int64) = lN 0 from rfl, pk_lLE (by decide) (by omega)]; exact Nat.zero_le _)) c_55
            · exact absurd ((lg_cmp_ge _ _).mpr (by rw [show (0 : Int64) = lN 0 from rfl, pk_lLE (by decide) (by omega)]; exact Nat.zero_le _)) c_54

set_option maxHeartbeats 4000000 in
set_option maxRecDepth 100000 in
theorem c_Tw_tellOfFour (l : Launch) (E : zG) (h0 e1 e2 pg ds : Nat) (f4 : Nat → Int64) (fo : Nat → Int32) (rest : Nat) (wh : Int32) (hd : ds ≤ 40) (hr0 : rest < 4611686018427387904) (hT : ∀ j, j < 41 → f4 j = lN (tw_F j) ∧ fo j = nI (tw_K j)) : zMet l y_Tw_tellOfFour b_Tw_tellOfFour 17 (some .int) 2 56 0 0 E [.ref h0, .long (lN rest), .int wh] [(h0, .inr (5, [.ref e1, .ref e2, .int (nI pg), .int (nI ds)])), (e1, zL E 41 f4), (e2, zI E 41 fo)] (zQi E (S := Unit) (fun r _ => r = tw_four wh 40 ds rest 0 1) (fun _ => [(h0, .inr (5, [.ref e1, .ref e2, .int (nI pg), .int (nI ds)])), (e1, zL E 41 f4), (e2, zI E 41 fo)])) := by
  refine zz_met (by decide +kernel) (Nat.le_of_ble_eq_true rfl) ?_
  intro p e s m below meth c A ls C hin hA hK hst hP hD hl
  obtain ⟨hx, hb, hr, hml, hown, hts, hlk⟩ := id C
  have hS : va_S A s.heap s.heap [] := va_S.rf
  have hl : lv_has ls 17 [(0, .ref h0), (1, .long (lN rest)), (3, .int wh)] := hl
  refine lv_lload_n hx hb d_Tw_tellOfFour_0 rfl (lv_at hl 1 rfl) ?_
  refine lv_lstore (lv' := [(4, .long (lN rest)), (0, .ref h0), (1, .long (lN rest)), (3, .int wh)]) hx hb d_Tw_tellOfFour_1 hl (by decide) rfl (fun ls hl => ?_)
  refine lv_aload_n hx hb d_Tw_tellOfFour_3 rfl (lv_at hl 1 rfl) ?_
  refine zz_get C hK hP fl_Tw_33 0 rfl rfl d_Tw_tellOfFour_4 ?_
  refine lv_istore (lv' := [(6, .int (nI ds)), (4, .long (lN rest)), (0, .ref h0), (1, .long (lN rest)), (3, .int wh)]) hx hb d_Tw_tellOfFour_7 hl (by decide) rfl (fun ls hl => ?_)
  refine lv_iconst (v := 0) hx hb d_Tw_tellOfFour_9 (by decide) ?_
  refine lv_istore (lv' := [(7, .int 0), (6, .int (nI ds)), (4, .long (lN rest)), (0, .ref h0), (1, .long (lN rest)), (3, .int wh)]) hx hb d_Tw_tellOfFour_10 hl (by decide) rfl (fun ls hl => ?_)
  refine lv_iconst (v := 1) hx hb d_Tw_tellOfFour_12 (by decide) ?_
  refine lv_istore (lv' := [(8, .int 1), (7, .int 0), (6, .int (nI ds)), (4, .long (lN rest)), (0, .ref h0), (1, .long (lN rest)), (3, .int wh)]) hx hb d_Tw_tellOfFour_13 hl (by decide) rfl (fun ls hl => ?_)
  refine lv_iconst (v := 0) hx hb d_Tw_tellOfFour_15 (by decide) ?_
  refine lv_istore (lv' := [(9, .int 0), (8, .int 1), (7, .int 0), (6, .int (nI ds)), (4, .long (lN rest)), (0, .ref h0), (1, .long (lN rest)), (3, .int wh)]) hx hb d_Tw_tellOfFour_16 hl (by decide) rfl (fun ls hl => ?_)
  have hl := lv_sub (l' := [(0, .ref h0), (1, .long (lN rest)), (3, .int wh), (4, .long (lN rest)), (6, .int (nI ds)), (7, .int (nI 0)), (8, .int (nI 1)), (9, .int (nI 0))]) hl [5, 6, 7, 4, 3, 2, 1, 0] (rfl)
  exact lp_Tw_tellOfFour hT C hA hK hst 40 0 ds rest 0 1 (by omega) hd hr0 (by decide) (by decide) (by decide) rfl _ _ ls hP hD hS hl

set_option maxHeartbeats 4000000 in
set_option maxRecDepth 100000 in
theorem c_Tw_tellMove_neg (l : Launch) (E : zG) (h0 e1 e2 pg ds : Nat) (f4 : Nat → Int64) (fo : Nat → Int32) (kx : Int64) (wh : Int32) (hk : kx < 0) : zMet l y_Tw_tellMove b_Tw_tellMove 4 (some .int) 3 92 0 0 E [.ref h0, .long kx, .int wh] [(h0, .inr (5, [.ref e1, .ref e2, .int (nI pg), .int (nI ds)])), (e1, zL E 41 f4), (e2, zI E 41 fo)] (zQi E (S := Unit) (fun r _ => r = -1) (fun _ => [(h0, .inr (5, [.ref e1, .ref e2, .int (nI pg), .int (nI ds)])), (e1, zL E 41 f4), (e2, zI E 41 fo)])) := by
  refine zz_met (by decide +kernel) (Nat.le_of_ble_eq_true rfl) ?_
  intro p e s m below meth c A ls C hin hA hK hst hP hD hl
  obtain ⟨hx, hb, hr, hml, hown, hts, hlk⟩ := id C
  have hS : va_S A s.heap s.heap [] := va_S.rf
  have hl : lv_has ls 4 [(0, .ref h0), (1, .long kx), (3, .int wh)] := hl
  refine lv_lload_n hx hb d_Tw_tellMove_0 rfl (lv_at hl 1 rfl) ?_
  refine lv_lconst (v := 0) hx hb d_Tw_tellMove_1 (by decide) ?_
  refine W.lcmp hx hb d_Tw_tellMove_2 ?_
  refine lv_if_lt (tgt := 24) hx hb d_Tw_tellMove_3 (by decide) (fun c_56 => ?_) (fun c_56 => ?_)
  · refine lv_iconst (v := (-1)) hx hb d_Tw_tellMove_24 (by decide) ?_
    exact zz_reti C (rfl) hS () (rfl) hP hD d_Tw_tellMove_25
  · exact absurd ((lg_cmp_lt _ _).mpr hk) c_56

set_option maxHeartbeats 4000000 in
set_option maxRecDepth 100000 in
theorem c_Tw_tellMove_pos (l : Launch) (E : zG) (h0 e1 e2 pg ds : Nat) (f4 : Nat → Int64) (fo : Nat → Int32) (rest : Nat) (wh : Int32) (hr0 : rest < 9223372036854775808) (hp : pg = 3 ∨ pg = 4) (hd : ds ≤ 40) (hT : ∀ j, j < 41 → f4 j = lN (tw_F j) ∧ fo j = nI (tw_K j)) : zMet l y_Tw_tellMove b_Tw_tellMove 4 (some .int) 3 92 0 0 E [.ref h0, .long (lN rest), .int wh] [(h0, .inr (5, [.ref e1, .ref e2, .int (nI pg), .int (nI ds)])), (e1, zL E 41 f4), (e2, zI E 41 fo)] (zQi E (S := Unit) (fun r _ => r = tw_tell pg ds rest wh) (fun _ => [(h0, .inr (5, [.ref e1, .ref e2, .int (nI pg), .int (nI ds)])), (e1, zL E 41 f4), (e2, zI E 41 fo)])) := by
  refine zz_met (by decide +kernel) (Nat.le_of_ble_eq_true rfl) ?_
  intro p e s m below meth c A ls C hin hA hK hst hP hD hl
  obtain ⟨hx, hb, hr, hml, hown, hts, hlk⟩ := id C
  have hS : va_S A s.heap s.heap [] := va_S.rf
  have hl : lv_has ls 4 [(0, .ref h0), (1, .long (lN rest)), (3, .int wh)] := hl
  have hML := tw_M_lt (pg := pg) hd
  refine lv_lload_n hx hb d_Tw_tellMove_0 rfl (lv_at hl 1 rfl) ?_
  refine lv_lconst (v := 0) hx hb d_Tw_tellMove_1 (by decide) ?_
  refine W.lcmp hx hb d_Tw_tellMove_2 ?_
  refine lv_if_lt (tgt := 24) hx hb d_Tw_tellMove_3 (by decide) (fun c_57 => ?_) (fun c_57 => ?_)
  · exact absurd ((lg_cmp_lt _ _).mp c_57) (by rw [show (0 : Int64) = lN 0 from rfl, pk_lLT hr0 (by decide)]; exact Nat.not_lt_zero _)
  · refine lv_lload_n hx hb d_Tw_tellMove_6 rfl (lv_at hl 1 rfl) ?_
    refine lv_aload_n hx hb d_Tw_tellMove_7 rfl (lv_at hl 0 rfl) ?_
    refine zz_gol (wr := []) [0, 1, 2] [] rfl rfl (by decide) (by decide) hA hP hD hS (zz_runV (wc := [(h0, .inr (5, [.ref e1, .ref e2, .int (nI pg), .int (nI ds)])), (e1, zL E 41 f4), (e2, zI E 41 fo)]) (As := []) (rest := [.long (lN rest)]) C (c_Tw_moves l E h0 e1 e2 pg ds f4 fo hp hd hT) ym_Tw_moves wd_ml_Tw_36 wd_im_Tw_moves wd_se_Tw_moves [0, 1, 2] (by decide) rfl hA hK hst hP hD hS (ci := 5) (q0 := 0) rfl rfl rfl rfl hl.1 rfl (Nat.le_of_ble_eq_true rfl) ⟨Nat.le_of_ble_eq_true rfl, Nat.le_of_ble_eq_true rfl⟩ ⟨Nat.le_of_ble_eq_true rfl, Nat.le_of_ble_eq_true rfl⟩ d_Tw_tellMove_8) (fun r_58 u H locs hw hP hD hS => ?_)
    have hP : va_P E.1 vwCl [(h0, .inr (5, [.ref e1, .ref e2, .int (nI pg), .int (nI ds)])), (e1, zL E 41 f4), (e2, zI E 41 fo)] H := hP
    have hD : va_D A [(h0, .inr (5, [.ref e1, .ref e2, .int (nI pg), .int (nI ds)])), (e1, zL E 41 f4), (e2, zI E 41 fo)] := hD
    subst hw
    refine W.lcmp hx hb d_Tw_tellMove_11 ?_
    refine lv_if_ge (tgt := 24) hx hb d_Tw_tellMove_12 (by decide) (fun c_59 => ?_) (fun c_59 => ?_)
    · have hge : tw_M pg ds ≤ rest := (pk_lLE (by omega) hr0).mp ((lg_cmp_ge _ _).mp c_59)
      refine lv_iconst (v := (-1)) hx hb d_Tw_tellMove_24 (by decide) ?_
      exact zz_reti C (rfl) hS () ((if_neg (fun h => absurd h.1 (Nat.not_lt.mpr hge))).symm) hP hD d_Tw_tellMove_25
    · have hlt : rest < tw_M pg ds := by
        rcases Nat.lt_or_ge rest (tw_M pg ds) with q | q
        · exact q
        · exact absurd ((lg_cmp_ge _ _).mpr ((pk_lLE (by omega) hr0).mpr q)) c_59
      refine lv_iload_n hx hb d_Tw_tellMove_15 rfl (lv_at hl 2 rfl) ?_
      refine lv_if_lt (tgt := 24) hx hb d_Tw_tellMove_16 (by decide) (fun c_60 => ?_) (fun c_60 => ?_)
      · refine lv_iconst (v := (-1)) hx hb d_Tw_tellMove_24 (by decide) ?_
        exact zz_reti C (rfl) hS () ((if_neg (fun h => h.2.1 c_60)).symm) hP hD d_Tw_tellMove_25
      · refine lv_iload_n hx hb d_Tw_tellMove_19 rfl (lv_at hl 2 rfl) ?_
        refine lv_iconst (v := 2) hx hb d_Tw_tellMove_20 (by decide) ?_
        refine lv_icmp_le (tgt := 26) hx hb d_Tw_tellMove_21 (by decide) (fun c_61 => ?_) (fun c_61 => ?_)
        · have hok : rest < tw_M pg ds ∧ ¬ wh < 0 ∧ wh ≤ 2 := ⟨hlt, c_60, c_61⟩
          refine lv_aload_n hx hb d_Tw_tellMove_26 rfl (lv_at hl 0 rfl) ?_
          refine zz_get C hK hP fl_Tw_19 0 rfl rfl d_Tw_tellMove_27 ?_
          refine lv_iconst (v := 3) hx hb d_Tw_tellMove_30 (by decide) ?_
          refine lv_icmp_ne (tgt := 50) hx hb d_Tw_tellMove_31 (by decide) (fun c_62 => ?_) (fun c_62 => ?_)
          · have h3 : ¬ pg = 3 := fun z => c_62 (by rw [z]; rfl)
            refine lv_aload_n hx hb d_Tw_tellMove_50 rfl (lv_at hl 0 rfl) ?_
            refine lv_lload_n hx hb d_Tw_tellMove_51 rfl (lv_at hl 1 rfl) ?_
            refine lv_iload_n hx hb d_Tw_tellMove_52 rfl (lv_at hl 2 rfl) ?_
            refine zz_goi (wr := []) [0, 1, 2] [] rfl rfl (by decide) (by decide) hA hP hD hS (zz_runV (wc := [(h0, .inr (5, [.ref e1, .ref e2, .int (nI pg), .int (nI ds)])), (e1, zL E 41 f4), (e2, zI E 41 fo)]) (As := [.long (lN rest), .int wh]) (rest := []) C (c_Tw_tellOfFour l E h0 e1 e2 pg ds f4 fo rest wh hd (by omega) hT) ym_Tw_tellOfFour wd_ml_Tw_44 wd_im_Tw_tellOfFour wd_se_Tw_tellOfFour [0, 1, 2] (by decide) rfl hA hK hst hP hD hS (ci := 5) (q0 := 0) rfl rfl rfl rfl hl.1 rfl (Nat.le_of_ble_eq_true rfl) ⟨Nat.le_of_ble_eq_true rfl, Nat.le_of_ble_eq_true rfl⟩ ⟨Nat.le_of_ble_eq_true rfl, Nat.le_of_ble_eq_true rfl⟩ d_Tw_tellMove_53) (fun r_63 u H locs hw hP hD hS => ?_)
            have hP : va_P E.1 vwCl [(h0, .inr (5, [.ref e1, .ref e2, .int (nI pg), .int (nI ds)])), (e1, zL E 41 f4), (e2, zI E 41 fo)] H := hP
            have hD : va_D A [(h0, .inr (5, [.ref e1, .ref e2, .int (nI pg), .int (nI ds)])), (e1, zL E 41 f4), (e2, zI E 41 fo)] := hD
            exact zz_reti C (rfl) hS () (by rw [hw]; unfold tw_tell; rw [if_pos hok, if_neg h3]) hP hD d_Tw_tellMove_56
          · have h3 : pg = 3 := by
              rcases hp with q | q
              · exact q
              · exact absurd (by rw [q] at c_62; exact c_62) (by decide : ¬ nI 4 = 3)
            refine lv_lload_n hx hb d_Tw_tellMove_34 rfl (lv_at hl 1 rfl) ?_
            refine lv_iload_n hx hb d_Tw_tellMove_35 rfl (lv_at hl 2 rfl) ?_
            refine lv_iconst (v := 0) hx hb d_Tw_tellMove_36 (by decide) ?_
            refine lv_aload_n hx hb d_Tw_tellMove_37 rfl (lv_at hl 0 rfl) ?_
            refine zz_get C hK hP fl_Tw_33 0 rfl rfl d_Tw_tellMove_38 ?_
            refine lv_iconst (v := 0) hx hb d_Tw_tellMove_41 (by decide) ?_
            refine lv_iconst (v := 1) hx hb d_Tw_tellMove_42 (by decide) ?_
            refine lv_iconst (v := 2) hx hb d_Tw_tellMove_43 (by decide) ?_
            rw [show F0 m 44 ls [.int 2, .int 1, .int 0, .int (nI ds), .int 0, .int wh, .long (lN rest)] = F0 m 44 ls [.int 2, .int 1, .int 0, .int (nI (0 + ds)), .int (nI 0), .int wh, .long (lN rest)] from by rw [Nat.zero_add]; rfl]
            refine zz_goi (wr := [(h0, .inr (5, [.ref e1, .ref e2, .int (nI pg), .int (nI ds)])), (e1, zL E 41 f4), (e2, zI E 41 fo)]) [] [0, 1, 2] rfl rfl (by decide) (by decide) hA hP hD hS (zz_runS (wc := []) (As := [.long (lN rest), .int wh, .int (nI 0), .int (nI (0 + ds)), .int 0, .int 1, .int 2]) (rest := []) C (c_Tw_tellOfThree l E rest 0 ds wh 0 1 2 (by omega) (by omega)) ym_Tw_tellOfThree wd_ml_Tw_40 wd_st_Tw_tellOfThree [] (by decide) rfl hA hK hst hP hD hS rfl hl.1 rfl (Nat.le_of_ble_eq_true rfl) ⟨Nat.le_of_ble_eq_true rfl, Nat.le_of_ble_eq_true rfl⟩ ⟨Nat.le_of_ble_eq_true rfl, Nat.le_of_ble_eq_true rfl⟩ d_Tw_tellMove_44) (fun r_64 u H locs hw hP hD hS => ?_)
            have hP : va_P E.1 vwCl [(h0, .inr (5, [.ref e1, .ref e2, .int (nI pg), .int (nI ds)])), (e1, zL E 41 f4), (e2, zI E 41 fo)] H := hP
            have hD : va_D A [(h0, .inr (5, [.ref e1, .ref e2, .int (nI pg), .int (nI ds)])), (e1, zL E 41 f4), (e2, zI E 41 fo)] := hD
            refine lv_goto (tgt := 56) hx hb d_Tw_tellMove_47 (by decide) ?_
            exact zz_reti C (rfl) hS () (by rw [hw]; unfold tw_tell; rw [if_pos hok, if_pos h3]) hP hD d_Tw_tellMove_56
        · refine lv_iconst (v := (-1)) hx hb d_Tw_tellMove_24 (by decide) ?_
          exact zz_reti C (rfl) hS () ((if_neg (fun h => c_61 h.2.2)).symm) hP hD d_Tw_tellMove_25
