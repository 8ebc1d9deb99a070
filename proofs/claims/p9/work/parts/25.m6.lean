set_option maxHeartbeats 4000000 in
set_option maxRecDepth 100000 in
theorem lp_Mo_findThree {p : Program} {l : Launch} {e : Env} {s : State} {m : MethodId} {below : List Frame} {meth : Method} {c : Code} {A : Nat → Prop}  {E : zG} {y0 : Nat} {v0 v1 v2 v3 v4 v5 v6 v7 v8 v9 v10 v11 v12 v13 v14 v15 v16 v17 v18 v19 v20 v21 v22 v23 v24 : Value} {rest low n0 : Nat} {p0 p1 p2 x1 x2 x3 : Int32} (C : cx p s m #[.ref y0, .long (lN rest), .int (nI n0), .int (nI low), .int p0, .int p1, .int p2] meth c b_Mo_findThree 15 y_Mo_findThree.cls none) (hA : ∀ q, s.heap.size ≤ q → A q) (hK : kt E s) (hst : stt A s s.heap) :
    ∀ (n r1 : Nat) (f t d : Int32) (_ : low + n < 41) (_ : r1 < 2 ^ n - 1) (_ : ∀ wh, tw_three wh low n r1 f t d = tw_three wh low n0 rest p0 p1 p2) (H : Heap) (locs : List Loc) (ls : Array Slot), va_P E.1 vwCl [(y0, .inr (7, [v0, v1, v2, v3, v4, v5, v6, v7, v8, v9, v10, v11, v12, v13, v14, v15, v16, v17, v18, v19, v20, v21, v22, v23, v24, .int x1, .int x2, .int x3]))] H → va_D A [(y0, .inr (7, [v0, v1, v2, v3, v4, v5, v6, v7, v8, v9, v10, v11, v12, v13, v14, v15, v16, v17, v18, v19, v20, v21, v22, v23, v24, .int x1, .int x2, .int x3]))] → va_S A s.heap H locs → lv_has ls 15 [(0, .ref y0), (1, .long (lN rest)), (3, .int (nI n0)), (4, .int (nI low)), (5, .int p0), (6, .int p1), (7, .int p2), (8, .long (lN r1)), (10, .int f), (11, .int t), (12, .int d), (13, .int (nI n))] → W p l e (zR 1 20 0 0) s m #[.ref y0, .long (lN rest), .int (nI n0), .int (nI low), .int p0, .int p1, .int p2] below meth c H locs 0 0 (MQ below ((zQv E (S := Int32 × Int32 × Int32) (fun u => ∀ wh, tw_three wh low n0 rest p0 p1 p2 = mo_pick wh u) (fun u => [(y0, .inr (7, [v0, v1, v2, v3, v4, v5, v6, v7, v8, v9, v10, v11, v12, v13, v14, v15, v16, v17, v18, v19, v20, v21, v22, v23, v24, .int u.1, .int u.2.1, .int u.2.2]))])) A) #[.ref y0, .long (lN rest), .int (nI n0), .int (nI low), .int p0, .int p1, .int p2] s 0 0 A) (F0 m 18 ls []) := by
  obtain ⟨hx, hb, hr, hml, hown, hts, hlk⟩ := id C
  intro n
  induction n with
  | zero =>
    intro r1 f t d hn h1 hgo H locs ls hP hD hS hl
    exact absurd h1 (by omega)
  | succ n ih =>
    intro r1 f t d hn h1 hgo H locs ls hP hD hS hl
    have hpw := tw_pow (n := n) (by omega)
    have hp2 : 2 ^ (n + 1) = 2 ^ n * 2 := Nat.pow_succ 2 n
    have hp1 : 0 < 2 ^ n := Nat.two_pow_pos n
    refine lv_lload hx hb d_Mo_findThree_18 (lv_at hl 7 rfl) ?_
    refine lv_iload hx hb d_Mo_findThree_20 (lv_at hl 11 rfl) ?_
    refine lv_iconst (v := 1) hx hb d_Mo_findThree_22 (by decide) ?_
    refine lv_isub hx hb d_Mo_findThree_23 ?_
    refine zz_eqi (y := nI n) (nI_pred n) ?_
    refine zz_gol (wr := [(y0, .inr (7, [v0, v1, v2, v3, v4, v5, v6, v7, v8, v9, v10, v11, v12, v13, v14, v15, v16, v17, v18, v19, v20, v21, v22, v23, v24, .int x1, .int x2, .int x3]))]) [] [0] rfl rfl (by decide) (by decide) hA hP hD hS (zz_runS (wc := []) (As := [.int (nI n)]) (rest := [.long (lN r1)]) C (c_Mo_three l E n (by omega)) ym_Mo_three wd_ml_Mo_68 wd_st_Mo_three [] (by decide) rfl hA hK hst hP hD hS rfl hl.1 rfl (Nat.le_of_ble_eq_true rfl) ⟨Nat.le_of_ble_eq_true rfl, Nat.le_of_ble_eq_true rfl⟩ ⟨Nat.le_of_ble_eq_true rfl, Nat.le_of_ble_eq_true rfl⟩ d_Mo_findThree_24) (fun r_1 u H locs hw hP hD hS => ?_)
    have hP : va_P E.1 vwCl [(y0, .inr (7, [v0, v1, v2, v3, v4, v5, v6, v7, v8, v9, v10, v11, v12, v13, v14, v15, v16, v17, v18, v19, v20, v21, v22, v23, v24, .int x1, .int x2, .int x3]))] H := hP
    have hD : va_D A [(y0, .inr (7, [v0, v1, v2, v3, v4, v5, v6, v7, v8, v9, v10, v11, v12, v13, v14, v15, v16, v17, v18, v19, v20, v21, v22, v23, v24, .int x1, .int x2, .int x3]))] := hD
    subst hw
    refine W.lcmp hx hb d_Mo_findThree_27 ?_
    refine lv_if_eq (tgt := 101) hx hb d_Mo_findThree_28 (by decide) (fun c_2 => ?_) (fun c_2 => ?_)
    · have he : r1 = 2 ^ n - 1 := (pk_lEQ (by omega) (by omega)).mp ((lg_cmp_eq _ _).mp c_2)
      refine lv_aload_n hx hb d_Mo_findThree_101 rfl (lv_at hl 0 rfl) ?_
      refine lv_iload hx hb d_Mo_findThree_102 (lv_at hl 3 rfl) ?_
      refine lv_iload hx hb d_Mo_findThree_104 (lv_at hl 11 rfl) ?_
      refine lv_iadd hx hb d_Mo_findThree_106 ?_
      refine zz_eqi (y := nI (low + n + 1)) (nI_add low (n + 1)) ?_
      refine lv_iconst (v := 1) hx hb d_Mo_findThree_107 (by decide) ?_
      refine lv_isub hx hb d_Mo_findThree_108 ?_
      refine zz_eqi (y := nI (low + n)) (nI_pred (low + n)) ?_
      refine zz_put C hK hP hD hS fl_Mo_144 0 rfl rfl rfl (Nat.le_of_ble_eq_true rfl) d_Mo_findThree_109 (fun H locs hP hD hS => ?_)
      have hP : va_P E.1 vwCl [(y0, .inr (7, [v0, v1, v2, v3, v4, v5, v6, v7, v8, v9, v10, v11, v12, v13, v14, v15, v16, v17, v18, v19, v20, v21, v22, v23, v24, .int (nI (low + n)), .int x2, .int x3]))] H := hP
      have hD : va_D A [(y0, .inr (7, [v0, v1, v2, v3, v4, v5, v6, v7, v8, v9, v10, v11, v12, v13, v14, v15, v16, v17, v18, v19, v20, v21, v22, v23, v24, .int (nI (low + n)), .int x2, .int x3]))] := hD
      refine lv_aload_n hx hb d_Mo_findThree_112 rfl (lv_at hl 0 rfl) ?_
      refine lv_iload hx hb d_Mo_findThree_113 (lv_at hl 8 rfl) ?_
      refine zz_put C hK hP hD hS fl_Mo_147 0 rfl rfl rfl (Nat.le_of_ble_eq_true rfl) d_Mo_findThree_115 (fun H locs hP hD hS => ?_)
      have hP : va_P E.1 vwCl [(y0, .inr (7, [v0, v1, v2, v3, v4, v5, v6, v7, v8, v9, v10, v11, v12, v13, v14, v15, v16, v17, v18, v19, v20, v21, v22, v23, v24, .int (nI (low + n)), .int f, .int x3]))] H := hP
      have hD : va_D A [(y0, .inr (7, [v0, v1, v2, v3, v4, v5, v6, v7, v8, v9, v10, v11, v12, v13, v14, v15, v16, v17, v18, v19, v20, v21, v22, v23, v24, .int (nI (low + n)), .int f, .int x3]))] := hD
      refine lv_aload_n hx hb d_Mo_findThree_118 rfl (lv_at hl 0 rfl) ?_
      refine lv_iload hx hb d_Mo_findThree_119 (lv_at hl 9 rfl) ?_
      refine zz_put C hK hP hD hS fl_Mo_150 0 rfl rfl rfl (Nat.le_of_ble_eq_true rfl) d_Mo_findThree_121 (fun H locs hP hD hS => ?_)
      have hP : va_P E.1 vwCl [(y0, .inr (7, [v0, v1, v2, v3, v4, v5, v6, v7, v8, v9, v10, v11, v12, v13, v14, v15, v16, v17, v18, v19, v20, v21, v22, v23, v24, .int (nI (low + n)), .int f, .int t]))] H := hP
      have hD : va_D A [(y0, .inr (7, [v0, v1, v2, v3, v4, v5, v6, v7, v8, v9, v10, v11, v12, v13, v14, v15, v16, v17, v18, v19, v20, v21, v22, v23, v24, .int (nI (low + n)), .int f, .int t]))] := hD
      exact zz_retv C hS (nI (low + n), f, t) (fun wh => by rw [← hgo wh, tw_three, if_pos he]; rfl) hP hD d_Mo_findThree_124
    · have hne : ¬ r1 = 2 ^ n - 1 := fun z => c_2 ((lg_cmp_eq _ _).mpr (by rw [z]))
      refine lv_lload hx hb d_Mo_findThree_31 (lv_at hl 7 rfl) ?_
      refine lv_iload hx hb d_Mo_findThree_33 (lv_at hl 11 rfl) ?_
      refine lv_iconst (v := 1) hx hb d_Mo_findThree_35 (by decide) ?_
      refine lv_isub hx hb d_Mo_findThree_36 ?_
      refine zz_eqi (y := nI n) (nI_pred n) ?_
      refine zz_gol (wr := [(y0, .inr (7, [v0, v1, v2, v3, v4, v5, v6, v7, v8, v9, v10, v11, v12, v13, v14, v15, v16, v17, v18, v19, v20, v21, v22, v23, v24, .int x1, .int x2, .int x3]))]) [] [0] rfl rfl (by decide) (by decide) hA hP hD hS (zz_runS (wc := []) (As := [.int (nI n)]) (rest := [.long (lN r1)]) C (c_Mo_three l E n (by omega)) ym_Mo_three wd_ml_Mo_68 wd_st_Mo_three [] (by decide) rfl hA hK hst hP hD hS rfl hl.1 rfl (Nat.le_of_ble_eq_true rfl) ⟨Nat.le_of_ble_eq_true rfl, Nat.le_of_ble_eq_true rfl⟩ ⟨Nat.le_of_ble_eq_true rfl, Nat.le_of_ble_eq_true rfl⟩ d_Mo_findThree_37) (fun r_3 u H locs hw hP hD hS => ?_)
      have hP : va_P E.1 vwCl [(y0, .inr (7, [v0, v1, v2, v3, v4, v5, v6, v7, v8, v9, v10, v11, v12, v13, v14, v15, v16, v17, v18, v19, v20, v21, v22, v23, v24, .int x1, .int x2, .int x3]))] H := hP
      have hD : va_D A [(y0, .inr (7, [v0, v1, v2, v3, v4, v5, v6, v7, v8, v9, v10, v11, v12, v13, v14, v15, v16, v17, v18, v19, v20, v21, v22, v23, v24, .int x1, .int x2, .int x3]))] := hD
      subst hw
      refine W.lcmp hx hb d_Mo_findThree_40 ?_
      refine lv_if_ge (tgt := 49) hx hb d_Mo_findThree_41 (by decide) (fun c_4 => ?_) (fun c_4 => ?_)
      · have hge : ¬ r1 < 2 ^ n - 1 := fun z => by
          have h9 := (lg_cmp_ge _ _).mp c_4
          rw [pk_lLE (by omega) (by omega)] at h9
          omega
        refine lv_iload hx hb d_Mo_findThree_49 (lv_at hl 8 rfl) ?_
        refine lv_istore (lv' := [(14, .int f), (0, .ref y0), (1, .long (lN rest)), (3, .int (nI n0)), (4, .int (nI low)), (5, .int p0), (6, .int p1), (7, .int p2), (8, .long (lN r1)), (10, .int f), (11, .int t), (12, .int d), (13, .int (nI (n + 1)))]) hx hb d_Mo_findThree_51 hl (by decide) rfl (fun ls hl => ?_)
        refine lv_lload hx hb d_Mo_findThree_53 (lv_at hl 8 rfl) ?_
        refine lv_iload hx hb d_Mo_findThree_55 (lv_at hl 12 rfl) ?_
        refine lv_iconst (v := 1) hx hb d_Mo_findThree_57 (by decide) ?_
        refine lv_isub hx hb d_Mo_findThree_58 ?_
        refine zz_eqi (y := nI n) (nI_pred n) ?_
        refine zz_gol (wr := [(y0, .inr (7, [v0, v1, v2, v3, v4, v5, v6, v7, v8, v9, v10, v11, v12, v13, v14, v15, v16, v17, v18, v19, v20, v21, v22, v23, v24, .int x1, .int x2, .int x3]))]) [] [0] rfl rfl (by decide) (by decide) hA hP hD hS (zz_runS (wc := []) (As := [.int (nI n)]) (rest := [.long (lN r1)]) C (c_Mo_three l E n (by omega)) ym_Mo_three wd_ml_Mo_68 wd_st_Mo_three [] (by decide) rfl hA hK hst hP hD hS rfl hl.1 rfl (Nat.le_of_ble_eq_true rfl) ⟨Nat.le_of_ble_eq_true rfl, Nat.le_of_ble_eq_true rfl⟩ ⟨Nat.le_of_ble_eq_true rfl, Nat.le_of_ble_eq_true rfl⟩ d_Mo_findThree_59) (fun r_5 u H locs hw hP hD hS => ?_)
        have hP : va_P E.1 vwCl [(y0, .inr (7, [v0, v1, v2, v3, v4, v5, v6, v7, v8, v9, v10, v11, v12, v13, v14, v15, v16, v17, v18, v19, v20, v21, v22, v23, v24, .int x1, .int x2, .int x3]))] H := hP
        have hD : va_D A [(y0, .inr (7, [v0, v1, v2, v3, v4, v5, v6, v7, v8, v9, v10, v11, v12, v13, v14, v15, v16, v17, v18, v19, v20, v21, v22, v23, v24, .int x1, .int x2, .int x3]))] := hD
        subst hw
        refine W.lcmp hx hb d_Mo_findThree_62 ?_
        refine lv_if_ge (tgt := 73) hx hb d_Mo_findThree_63 (by decide) (fun c_6 => ?_) (fun c_6 => ?_)
        · refine lv_lload hx hb d_Mo_findThree_73 (lv_at hl 8 rfl) ?_
          refine lv_iload hx hb d_Mo_findThree_75 (lv_at hl 12 rfl) ?_
          refine lv_iconst (v := 1) hx hb d_Mo_findThree_77 (by decide) ?_
          refine lv_isub hx hb d_Mo_findThree_78 ?_
          refine zz_eqi (y := nI n) (nI_pred n) ?_
          refine zz_gol (wr := [(y0, .inr (7, [v0, v1, v2, v3, v4, v5, v6, v7, v8, v9, v10, v11, v12, v13, v14, v15, v16, v17, v18, v19, v20, v21, v22, v23, v24, .int x1, .int x2, .int x3]))]) [] [0] rfl rfl (by decide) (by decide) hA hP hD hS (zz_runS (wc := []) (As := [.int (nI n)]) (rest := [.long (lN r1)]) C (c_Mo_three l E n (by omega)) ym_Mo_three wd_ml_Mo_68 wd_st_Mo_three [] (by decide) rfl hA hK hst hP hD hS rfl hl.1 rfl (Nat.le_of_ble_eq_true rfl) ⟨Nat.le_of_ble_eq_true rfl, Nat.le_of_ble_eq_true rfl⟩ ⟨Nat.le_of_ble_eq_true rfl, Nat.le_of_ble_eq_true rfl⟩ d_Mo_findThree_79) (fun r_7 u H locs hw hP hD hS => ?_)
          have hP : va_P E.1 vwCl [(y0, .inr (7, [v0, v1, v2, v3, v4, v5, v6, v7, v8, v9, v10, v11, v12, v13, v14, v15, v16, v17, v18, v19, v20, v21, v22, v23, v24, .int x1, .int x2, .int x3]))] H := hP
          have hD : va_D A [(y0, .inr (7, [v0, v1, v2, v3, v4, v5, v6, v7, v8, v9, v10, v11, v12, v13, v14, v15, v16, v17, v18, v19, v20, v21, v22, v23, v24, .int x1, .int x2, .int x3]))] := hD
          subst hw
          refine lv_lconst (v := 1) hx hb d_Mo_findThree_82 (by decide) ?_
          refine lv_ladd hx hb d_Mo_findThree_83 ?_
          refine zz_eql (y := lN (2 ^ n - 1 + 1)) (lN_add _ 1) ?_
          refine lv_lsub hx hb d_Mo_findThree_84 ?_
          refine zz_eql (y := lN (r1 - (2 ^ n - 1 + 1))) (lN_sub (by omega)) ?_
          refine lv_lstore (lv' := [(8, .long (lN (r1 - (2 ^ n - 1 + 1)))), (14, .int f), (0, .ref y0), (1, .long (lN rest)), (3, .int (nI n0)), (4, .int (nI low)), (5, .int p0), (6, .int p1), (7, .int p2), (10, .int f), (11, .int t), (12, .int d), (13, .int (nI (n + 1)))]) hx hb d_Mo_findThree_85 hl (by decide) rfl (fun ls hl => ?_)
          refine lv_iload hx hb d_Mo_findThree_87 (lv_at hl 11 rfl) ?_
          refine lv_istore (lv' := [(10, .int d), (8, .long (lN (r1 - (2 ^ n - 1 + 1)))), (14, .int f), (0, .ref y0), (1, .long (lN rest)), (3, .int (nI n0)), (4, .int (nI low)), (5, .int p0), (6, .int p1), (7, .int p2), (11, .int t), (12, .int d), (13, .int (nI (n + 1)))]) hx hb d_Mo_findThree_89 hl (by decide) rfl (fun ls hl => ?_)
          refine lv_iload hx hb d_Mo_findThree_91 (lv_at hl 2 rfl) ?_
          refine lv_istore (lv' := [(12, .int f), (10, .int d), (8, .long (lN (r1 - (2 ^ n - 1 + 1)))), (14, .int f), (0, .ref y0), (1, .long (lN rest)), (3, .int (nI n0)), (4, .int (nI low)), (5, .int p0), (6, .int p1), (7, .int p2), (11, .int t), (13, .int (nI (n + 1)))]) hx hb d_Mo_findThree_93 hl (by decide) rfl (fun ls hl => ?_)
          refine lv_iinc (v := nI n) (lv' := [(13, .int (nI n)), (12, .int f), (10, .int d), (8, .long (lN (r1 - (2 ^ n - 1 + 1)))), (14, .int f), (0, .ref y0), (1, .long (lN rest)), (3, .int (nI n0)), (4, .int (nI low)), (5, .int p0), (6, .int p1), (7, .int p2), (11, .int t)]) hx hb d_Mo_findThree_95 hl (k := 12) rfl (pk_m1 n) (by decide) rfl (fun ls hl => ?_)
          refine lv_goto (tgt := 18) hx hb d_Mo_findThree_98 (by decide) ?_
          exact ih (r1 - (2 ^ n - 1 + 1)) d t f (by omega) (by omega) (fun wh => by rw [← hgo wh]; conv => rhs; rw [tw_three, if_neg hne, if_neg hge]) _ _ ls hP hD hS (lv_sub hl [5, 6, 7, 8, 9, 10, 11, 3, 2, 12, 1, 0] rfl)
        · exact absurd ((lg_cmp_ge _ _).mpr (by rw [pk_lLE (by omega) (by omega)]; omega)) c_6
      · have hlt : r1 < 2 ^ n - 1 := by
          rcases Nat.lt_or_ge r1 (2 ^ n - 1) with q | q
          · exact q
          · exact absurd ((lg_cmp_ge _ _).mpr (by rw [pk_lLE (by omega) (by omega)]; exact q)) c_4
        refine lv_iload hx hb d_Mo_findThree_44 (lv_at hl 9 rfl) ?_
        refine lv_goto (tgt := 51) hx hb d_Mo_findThree_46 (by decide) ?_
        refine lv_istore (lv' := [(14, .int t), (0, .ref y0), (1, .long (lN rest)), (3, .int (nI n0)), (4, .int (nI low)), (5, .int p0), (6, .int p1), (7, .int p2), (8, .long (lN r1)), (10, .int f), (11, .int t), (12, .int d), (13, .int (nI (n + 1)))]) hx hb d_Mo_findThree_51 hl (by decide) rfl (fun ls hl => ?_)
        refine lv_lload hx hb d_Mo_findThree_53 (lv_at hl 8 rfl) ?_
        refine lv_iload hx hb d_Mo_findThree_55 (lv_at hl 12 rfl) ?_
        refine lv_iconst (v := 1) hx hb d_Mo_findThree_57 (by decide) ?_
        refine lv_isub hx hb d_Mo_findThree_58 ?_
        refine zz_eqi (y := nI n) (nI_pred n) ?_
        refine zz_gol (wr := [(y0, .inr (7, [v0, v1, v2, v3, v4, v5, v6, v7, v8, v9, v10, v11, v12, v13, v14, v15, v16, v17, v18, v19, v20, v21, v22, v23, v24, .int x1, .int x2, .int x3]))]) [] [0] rfl rfl (by decide) (by decide) hA hP hD hS (zz_runS (wc := []) (As := [.int (nI n)]) (rest := [.long (lN r1)]) C (c_Mo_three l E n (by omega)) ym_Mo_three wd_ml_Mo_68 wd_st_Mo_three [] (by decide) rfl hA hK hst hP hD hS rfl hl.1 rfl (Nat.le_of_ble_eq_true rfl) ⟨Nat.le_of_ble_eq_true rfl, Nat.le_of_ble_eq_true rfl⟩ ⟨Nat.le_of_ble_eq_true rfl, Nat.le_of_ble_eq_true rfl⟩ d_Mo_findThree_59) (fun r_8 u H locs hw hP hD hS => ?_)
        have hP : va_P E.1 vwCl [(y0, .inr (7, [v0, v1, v2, v3, v4, v5, v6, v7, v8, v9, v10, v11, v12, v13, v14, v15, v16, v17, v18, v19, v20, v21, v22, v23, v24, .int x1, .int x2, .int x3]))] H := hP
        have hD : va_D A [(y0, .inr (7, [v0, v1, v2, v3, v4, v5, v6, v7, v8, v9, v10, v11, v12, v13, v14, v15, v16, v17, v18, v19, v20, v21, v22, v23, v24, .int x1, .int x2, .int x3]))] := hD
        subst hw
        refine W.lcmp hx hb d_Mo_findThree_62 ?_
        refine lv_if_ge (tgt := 73) hx hb d_Mo_findThree_63 (by decide) (fun c_9 => ?_) (fun c_9 => ?_)
        · exact absurd ((lg_cmp_ge _ _).mp c_9) (by rw [pk_lLE (by omega) (by omega)]; omega)
        · refine lv_iload hx hb d_Mo_findThree_66 (lv_at hl 11 rfl) ?_
          refine lv_istore (lv' := [(11, .int d), (14, .int t), (0, .ref y0), (1, .long (lN rest)), (3, .int (nI n0)), (4, .int (nI low)), (5, .int p0), (6, .int p1), (7, .int p2), (8, .long (lN r1)), (10, .int f), (12, .int d), (13, .int (nI (n + 1)))]) hx hb d_Mo_findThree_68 hl (by decide) rfl (fun ls hl => ?_)
          refine lv_goto (tgt := 91) hx hb d_Mo_findThree_70 (by decide) ?_
          refine lv_iload hx hb d_Mo_findThree_91 (lv_at hl 1 rfl) ?_
          refine lv_istore (lv' := [(12, .int t), (11, .int d), (14, .int t), (0, .ref y0), (1, .long (lN rest)), (3, .int (nI n0)), (4, .int (nI low)), (5, .int p0), (6, .int p1), (7, .int p2), (8, .long (lN r1)), (10, .int f), (13, .int (nI (n + 1)))]) hx hb d_Mo_findThree_93 hl (by decide) rfl (fun ls hl => ?_)
          refine lv_iinc (v := nI n) (lv' := [(13, .int (nI n)), (12, .int t), (11, .int d), (14, .int t), (0, .ref y0), (1, .long (lN rest)), (3, .int (nI n0)), (4, .int (nI low)), (5, .int p0), (6, .int p1), (7, .int p2), (8, .long (lN r1)), (10, .int f)]) hx hb d_Mo_findThree_95 hl (k := 12) rfl (pk_m1 n) (by decide) rfl (fun ls hl => ?_)
          refine lv_goto (tgt := 18) hx hb d_Mo_findThree_98 (by decide) ?_
          exact ih r1 f d t (by omega) hlt (fun wh => by rw [← hgo wh]; conv => rhs; rw [tw_three, if_neg hne, if_pos hlt]) _ _ ls hP hD hS (lv_sub hl [4, 5, 6, 7, 8, 9, 10, 11, 12, 2, 1, 0] rfl)

set_option maxHeartbeats 4000000 in
set_option maxRecDepth 100000 in
theorem c_Mo_findThree (l : Launch) (E : zG) (y0 : Nat) (v0 v1 v2 v3 v4 v5 v6 v7 v8 v9 v10 v11 v12 v13 v14 v15 v16 v17 v18 v19 v20 v21 v22 v23 v24 : Value) (rest low n0 : Nat) (p0 p1 p2 x1 x2 x3 : Int32) (hr0 : rest < 2 ^ n0 - 1) (hn0 : low + n0 < 41) : zMet l y_Mo_findThree b_Mo_findThree 15 none 1 20 0 0 E [.ref y0, .long (lN rest), .int (nI n0), .int (nI low), .int p0, .int p1, .int p2] [(y0, .inr (7, [v0, v1, v2, v3, v4, v5, v6, v7, v8, v9, v10, v11, v12, v13, v14, v15, v16, v17, v18, v19, v20, v21, v22, v23, v24, .int x1, .int x2, .int x3]))] (zQv E (S := Int32 × Int32 × Int32) (fun u => ∀ wh, tw_three wh low n0 rest p0 p1 p2 = mo_pick wh u) (fun u => [(y0, .inr (7, [v0, v1, v2, v3, v4, v5, v6, v7, v8, v9, v10, v11, v12, v13, v14, v15, v16, v17, v18, v19, v20, v21, v22, v23, v24, .int u.1, .int u.2.1, .int u.2.2]))])) := by
  refine zz_met (by decide +kernel) (Nat.le_of_ble_eq_true rfl) ?_
  intro p e s m below meth c A ls C hin hA hK hst hP hD hl
  obtain ⟨hx, hb, hr, hml, hown, hts, hlk⟩ := id C
  have hS : va_S A s.heap s.heap [] := va_S.rf
  have hl : lv_has ls 15 [(0, .ref y0), (1, .long (lN rest)), (3, .int (nI n0)), (4, .int (nI low)), (5, .int p0), (6, .int p1), (7, .int p2)] := hl
  refine lv_lload_n hx hb d_Mo_findThree_0 rfl (lv_at hl 1 rfl) ?_
  refine lv_lstore (lv' := [(8, .long (lN rest)), (0, .ref y0), (1, .long (lN rest)), (3, .int (nI n0)), (4, .int (nI low)), (5, .int p0), (6, .int p1), (7, .int p2)]) hx hb d_Mo_findThree_1 hl (by decide) rfl (fun ls hl => ?_)
  refine lv_iload hx hb d_Mo_findThree_3 (lv_at hl 5 rfl) ?_
  refine lv_istore (lv' := [(10, .int p0), (8, .long (lN rest)), (0, .ref y0), (1, .long (lN rest)), (3, .int (nI n0)), (4, .int (nI low)), (5, .int p0), (6, .int p1), (7, .int p2)]) hx hb d_Mo_findThree_5 hl (by decide) rfl (fun ls hl => ?_)
  refine lv_iload hx hb d_Mo_findThree_7 (lv_at hl 7 rfl) ?_
  refine lv_istore (lv' := [(11, .int p1), (10, .int p0), (8, .long (lN rest)), (0, .ref y0), (1, .long (lN rest)), (3, .int (nI n0)), (4, .int (nI low)), (5, .int p0), (6, .int p1), (7, .int p2)]) hx hb d_Mo_findThree_9 hl (by decide) rfl (fun ls hl => ?_)
  refine lv_iload hx hb d_Mo_findThree_11 (lv_at hl 9 rfl) ?_
  refine lv_istore (lv' := [(12, .int p2), (11, .int p1), (10, .int p0), (8, .long (lN rest)), (0, .ref y0), (1, .long (lN rest)), (3, .int (nI n0)), (4, .int (nI low)), (5, .int p0), (6, .int p1), (7, .int p2)]) hx hb d_Mo_findThree_13 hl (by decide) rfl (fun ls hl => ?_)
  refine lv_iload_n hx hb d_Mo_findThree_15 rfl (lv_at hl 6 rfl) ?_
  refine lv_istore (lv' := [(13, .int (nI n0)), (12, .int p2), (11, .int p1), (10, .int p0), (8, .long (lN rest)), (0, .ref y0), (1, .long (lN rest)), (3, .int (nI n0)), (4, .int (nI low)), (5, .int p0), (6, .int p1), (7, .int p2)]) hx hb d_Mo_findThree_16 hl (by decide) rfl (fun ls hl => ?_)
  exact lp_Mo_findThree C hA hK hst n0 rest p0 p1 p2 hn0 hr0 (fun _ => rfl) _ _ ls hP hD hS (lv_sub hl [5, 6, 7, 8, 9, 10, 11, 4, 3, 2, 1, 0] rfl)

set_option maxHeartbeats 4000000 in
set_option maxRecDepth 100000 in
theorem lp_Mo_spare {p : Program} {l : Launch} {e : Env} {s : State} {m : MethodId} {below : List Frame} {meth : Method} {c : Code} {A : Nat → Prop}  {E : zG} {p0 p1 g0 : Int32} (C : cx p s m #[.int p0, .int p1, .int g0] meth c b_Mo_spare 5 y_Mo_spare.cls (some .int)) (hA : ∀ q, s.heap.size ≤ q → A q) (hK : kt E s) (hst : stt A s s.heap) :
    ∀ (f i : Nat) (_ : i + f = 4) (H : Heap) (locs : List Loc) (ls : Array Slot), va_P E.1 vwCl [] H → va_D A [] → va_S A s.heap H locs → lv_has ls 5 [(0, .int p0), (1, .int p1), (2, .int g0), (3, .int (mo_sp p0 p1 g0 i)), (4, .int (nI i))] → W p l e (zR 0 0 0 0) s m #[.int p0, .int p1, .int g0] below meth c H locs 0 0 (MQ below ((zQi E (S := Unit) (fun r _ => r = mo_sp p0 p1 g0 4) (fun _ => [])) A) #[.int p0, .int p1, .int g0] s 0 0 A) (F0 m 5 ls []) := by
  obtain ⟨hx, hb, hr, hml, hown, hts, hlk⟩ := id C
  intro f
  induction f with
  | zero =>
    intro i hi H locs ls hP hD hS hl
    have hi : i = 4 := by omega
    subst hi
    refine lv_iload hx hb d_Mo_spare_5 (lv_at hl 4 rfl) ?_
    refine lv_iconst (v := 4) hx hb d_Mo_spare_7 (by decide) ?_
    refine lv_icmp_ge (tgt := 40) hx hb d_Mo_spare_8 (by decide) (fun c_10 => ?_) (fun c_10 => ?_)
    · refine lv_iload_n hx hb d_Mo_spare_40 rfl (lv_at hl 3 rfl) ?_
      exact zz_reti C (rfl) hS () (rfl) hP hD d_Mo_spare_41
    · exact absurd (nI_le (b := 4) (Nat.le_refl _) (by decide)) c_10
  | succ f ih =>
    intro i hi H locs ls hP hD hS hl
    refine lv_iload hx hb d_Mo_spare_5 (lv_at hl 4 rfl) ?_
    refine lv_iconst (v := 4) hx hb d_Mo_spare_7 (by decide) ?_
    refine lv_icmp_ge (tgt := 40) hx hb d_Mo_spare_8 (by decide) (fun c_11 => ?_) (fun c_11 => ?_)
    · exact absurd c_11 (nI_ge (b := 4) (by omega) (by decide))
    · refine lv_iload hx hb d_Mo_spare_11 (lv_at hl 4 rfl) ?_
      refine lv_iload_n hx hb d_Mo_spare_13 rfl (lv_at hl 0 rfl) ?_
      refine lv_icmp_eq (tgt := 34) hx hb d_Mo_spare_14 (by decide) (fun c_12 => ?_) (fun c_12 => ?_)
      · have hk0 : mo_sp p0 p1 g0 i = mo_sp p0 p1 g0 (i + 1) := by rw [mo_sp, if_neg (fun z => z.1 c_12)]
        refine lv_iinc (v := nI (i + 1)) (lv' := [(4, .int (nI (i + 1))), (0, .int p0), (1, .int p1), (2, .int g0), (3, .int (mo_sp p0 p1 g0 i))]) hx hb d_Mo_spare_34 hl (k := 4) rfl (nI_1 _) (by decide) rfl (fun ls hl => ?_)
        refine lv_goto (tgt := 5) hx hb d_Mo_spare_37 (by decide) ?_
        have hl := lv_sub (l' := [(0, .int p0), (1, .int p1), (2, .int g0), (3, .int (mo_sp p0 p1 g0 (i + 1))), (4, .int (nI (i + 1)))]) hl [1, 2, 3, 4, 0] (by rw [← hk0]; rfl)
        exact ih (i + 1) (by omega) _ _ ls hP hD hS hl
      · refine lv_iload hx hb d_Mo_spare_17 (lv_at hl 4 rfl) ?_
        refine lv_iload_n hx hb d_Mo_spare_19 rfl (lv_at hl 1 rfl) ?_
        refine lv_icmp_eq (tgt := 34) hx hb d_Mo_spare_20 (by decide) (fun c_13 => ?_) (fun c_13 => ?_)
        · have hk0 : mo_sp p0 p1 g0 i = mo_sp p0 p1 g0 (i + 1) := by rw [mo_sp, if_neg (fun z => z.2.1 c_13)]
          refine lv_iinc (v := nI (i + 1)) (lv' := [(4, .int (nI (i + 1))), (0, .int p0), (1, .int p1), (2, .int g0), (3, .int (mo_sp p0 p1 g0 i))]) hx hb d_Mo_spare_34 hl (k := 4) rfl (nI_1 _) (by decide) rfl (fun ls hl => ?_)
          refine lv_goto (tgt := 5) hx hb d_Mo_spare_37 (by decide) ?_
          have hl := lv_sub (l' := [(0, .int p0), (1, .int p1), (2, .int g0), (3, .int (mo_sp p0 p1 g0 (i + 1))), (4, .int (nI (i + 1)))]) hl [1, 2, 3, 4, 0] (by rw [← hk0]; rfl)
          exact ih (i + 1) (by omega) _ _ ls hP hD hS hl
        · refine lv_iload_n hx hb d_Mo_spare_23 rfl (lv_at hl 3 rfl) ?_
          refine lv_if_lt (tgt := 31) hx hb d_Mo_spare_24 (by decide) (fun c_14 => ?_) (fun c_14 => ?_)
          · have hk0 : nI i = mo_sp p0 p1 g0 (i + 1) := by rw [mo_sp, if_pos (⟨c_12, c_13, Or.inl c_14⟩)]
            refine lv_iload hx hb d_Mo_spare_31 (lv_at hl 4 rfl) ?_
            refine lv_istore_n (lv' := [(3, .int (nI i)), (0, .int p0), (1, .int p1), (2, .int g0), (4, .int (nI i))]) hx hb d_Mo_spare_33 rfl hl (by decide) rfl (fun ls hl => ?_)
            refine lv_iinc (v := nI (i + 1)) (lv' := [(4, .int (nI (i + 1))), (3, .int (nI i)), (0, .int p0), (1, .int p1), (2, .int g0)]) hx hb d_Mo_spare_34 hl (k := 4) rfl (nI_1 _) (by decide) rfl (fun ls hl => ?_)
            refine lv_goto (tgt := 5) hx hb d_Mo_spare_37 (by decide) ?_
            have hl := lv_sub (l' := [(0, .int p0), (1, .int p1), (2, .int g0), (3, .int (mo_sp p0 p1 g0 (i + 1))), (4, .int (nI (i + 1)))]) hl [2, 3, 4, 1, 0] (by rw [← hk0]; rfl)
            exact ih (i + 1) (by omega) _ _ ls hP hD hS hl
          · refine lv_iload_n hx hb d_Mo_spare_27 rfl (lv_at hl 2 rfl) ?_
            refine lv_if_eq (tgt := 34) hx hb d_Mo_spare_28 (by decide) (fun c_15 => ?_) (fun c_15 => ?_)
            · have hk0 : mo_sp p0 p1 g0 i = mo_sp p0 p1 g0 (i + 1) := by rw [mo_sp, if_neg (fun z => z.2.2.elim c_14 (fun y => y c_15))]
              refine lv_iinc (v := nI (i + 1)) (lv' := [(4, .int (nI (i + 1))), (0, .int p0), (1, .int p1), (2, .int g0), (3, .int (mo_sp p0 p1 g0 i))]) hx hb d_Mo_spare_34 hl (k := 4) rfl (nI_1 _) (by decide) rfl (fun ls hl => ?_)
              refine lv_goto (tgt := 5) hx hb d_Mo_spare_37 (by decide) ?_
              have hl := lv_sub (l' := [(0, .int p0), (1, .int p1), (2, .int g0), (3, .int (mo_sp p0 p1 g0 (i + 1))), (4, .int (nI (i + 1)))]) hl [1, 2, 3, 4, 0] (by rw [← hk0]; rfl)
              exact ih (i + 1) (by omega) _ _ ls hP hD hS hl
            · have hk0 : nI i = mo_sp p0 p1 g0 (i + 1) := by rw [mo_sp, if_pos (⟨c_12, c_13, Or.inr c_15⟩)]
              refine lv_iload hx hb d_Mo_spare_31 (lv_at hl 4 rfl) ?_
              refine lv_istore_n (lv' := [(3, .int (nI i)), (0, .int p0), (1, .int p1), (2, .int g0), (4, .int (nI i))]) hx hb d_Mo_spare_33 rfl hl (by decide) rfl (fun ls hl => ?_)
              refine lv_iinc (v := nI (i + 1)) (lv' := [(4, .int (nI (i + 1))), (3, .int (nI i)), (0, .int p0), (1, .int p1), (2, .int g0)]) hx hb d_Mo_spare_34 hl (k := 4) rfl (nI_1 _) (by decide) rfl (fun ls hl => ?_)
              refine lv_goto (tgt := 5) hx hb d_Mo_spare_37 (by decide) ?_
              have hl := lv_sub (l' := [(0, .int p0), (1, .int p1), (2, .int g0), (3, .int (mo_sp p0 p1 g0 (i + 1))), (4, .int (nI (i + 1)))]) hl [2, 3, 4, 1, 0] (by rw [← hk0]; rfl)
              exact ih (i + 1) (by omega) _ _ ls hP hD hS hl

set_option maxHeartbeats 4000000 in
set_option maxRecDepth 100000 in
theorem c_Mo_spare (l : Launch) (E : zG) (p0 p1 g0 : Int32) : zMet l y_Mo_spare b_Mo_spare 5 (some .int) 0 0 0 0 E [.int p0, .int p1, .int g0] [] (zQi E (S := Unit) (fun r _ => r = mo_sp p0 p1 g0 4) (fun _ => [])) := by
  refine zz_met (by decide +kernel) (Nat.le_of_ble_eq_true rfl) ?_
  intro p e s m below meth c A ls C hin hA hK hst hP hD hl
  obtain ⟨hx, hb, hr, hml, hown, hts, hlk⟩ := id C
  have hS : va_S A s.heap s.heap [] := va_S.rf
  have hl : lv_has ls 5 [(0, .int p0), (1, .int p1), (2, .int g0)] := hl
  refine lv_iconst (v := (-1)) hx hb d_Mo_spare_0 (by decide) ?_
  refine lv_istore_n (lv' := [(3, .int (-1)), (0, .int p0), (1, .int p1), (2, .int g0)]) hx hb d_Mo_spare_1 rfl hl (by decide) rfl (fun ls hl => ?_)
  refine lv_iconst (v := 0) hx hb d_Mo_spare_2 (by decide) ?_
  refine zz_eqi (y := nI 0) (rfl) ?_
  refine lv_istore (lv' := [(4, .int (nI 0)), (3, .int (-1)), (0, .int p0), (1, .int p1), (2, .int g0)]) hx hb d_Mo_spare_3 hl (by decide) rfl (fun ls hl => ?_)
  have hl := lv_sub (l' := [(0, .int p0), (1, .int p1), (2, .int g0), (3, .int (mo_sp p0 p1 g0 0)), (4, .int (nI 0))]) hl [2, 3, 4, 1, 0] (rfl)
  exact lp_Mo_spare C hA hK hst 4 0 (by omega) _ _ ls hP hD hS hl

set_option maxHeartbeats 4000000 in
set_option maxRecDepth 100000 in
theorem lp_Mo_findFour {p : Program} {l : Launch} {e : Env} {s : State} {m : MethodId} {below : List Frame} {meth : Method} {c : Code} {A : Nat → Prop}  {E : zG} {y0 : Nat} {v0 v1 v2 v3 v4 v5 v6 v7 v8 v9 v10 v11 v12 v13 v14 v15 v16 v17 v18 v19 v20 v21 v22 : Value} {z8 z9 rest ds : Nat} {f4 : Nat → Int64} {fo : Nat → Int32} {x1 x2 x3 : Int32} (hT : ∀ j, j < 41 → f4 j = lN (tw_F j) ∧ fo j = nI (tw_K j)) (C : cx p s m #[.ref y0, .long (lN rest), .int (nI ds)] meth c b_Mo_findFour 12 y_Mo_findFour.cls none) (hA : ∀ q, s.heap.size ≤ q → A q) (hK : kt E s) (hst : stt A s s.heap) :
    ∀ (f n r1 fr to : Nat) (_ : n ≤ 40) (_ : n ≤ f) (_ : fr < 4) (_ : to < 4) (_ : fr ≠ to) (_ : r1 < tw_F n) (_ : ∀ wh, tw_four wh f n r1 fr to = tw_four wh 40 ds rest 0 1) (H : Heap) (locs : List Loc) (ls : Array Slot), va_P E.1 vwCl [(y0, .inr (7, [v0, v1, v2, v3, v4, v5, v6, v7, v8, v9, v10, v11, v12, v13, v14, v15, v16, v17, v18, v19, v20, v21, v22, .ref z8, .ref z9, .int x1, .int x2, .int x3])), (z8, zL E 41 f4), (z9, zI E 41 fo)] H → va_D A [(y0, .inr (7, [v0, v1, v2, v3, v4, v5, v6, v7, v8, v9, v10, v11, v12, v13, v14, v15, v16, v17, v18, v19, v20, v21, v22, .ref z8, .ref z9, .int x1, .int x2, .int x3])), (z8, zL E 41 f4), (z9, zI E 41 fo)] → va_S A s.heap H locs → lv_has ls 12 [(0, .ref y0), (1, .long (lN rest)), (3, .int (nI ds)), (4, .long (lN r1)), (6, .int (nI fr)), (7, .int (nI to)), (8, .int (nI n))] → W p l e (zR 2 54 0 0) s m #[.ref y0, .long (lN rest), .int (nI ds)] below meth c H locs 0 0 (MQ below ((zQv E (S := Int32 × Int32 × Int32) (fun u => ∀ wh, tw_four wh 40 ds rest 0 1 = mo_pick wh u) (fun u => [(y0, .inr (7, [v0, v1, v2, v3, v4, v5, v6, v7, v8, v9, v10, v11, v12, v13, v14, v15, v16, v17, v18, v19, v20, v21, v22, .ref z8, .ref z9, .int u.1, .int u.2.1, .int u.2.2])), (z8, zL E 41 f4), (z9, zI E 41 fo)])) A) #[.ref y0, .long (lN rest), .int (nI ds)] s 0 0 A) (F0 m 12 ls []) := by
  obtain ⟨hx, hb, hr, hml, hown, hts, hlk⟩ := id C
  intro f
  induction f with
  | zero =>
    intro n r1 fr to hn hnf hf ht hne h1 hgo H locs ls hP hD hS hl
    have hz : n = 0 := by omega
    rw [hz] at h1
    exact absurd h1 (Nat.not_lt_zero r1)
  | succ f ih =>
    intro n r1 fr to hn hnf hf ht hne h1 hgo H locs ls hP hD hS hl
    have hn0 : ¬ n = 0 := fun z => by
      rw [z] at h1
      exact absurd h1 (Nat.not_lt_zero r1)
    have hk := tw_F_lt n (by omega)
    have hkn : tw_K n < n := hk.2.2 (by omega)
    have hk2 := tw_F_lt (tw_K n) (by omega)
    have hFK := tw_FK n (by omega) (by omega)
    have hpw := tw_pow (n := n - tw_K n) (by omega)
    have hsp := mo_sp_ok fr hf to ht hne
    have hTn := hT n (by omega)
    have hTk := hT (tw_K n) (by omega)
    refine lv_aload_n hx hb d_Mo_findFour_12 rfl (lv_at hl 0 rfl) ?_
    refine zz_get C hK hP fl_Mo_61 0 rfl rfl d_Mo_findFour_13 ?_
    refine lv_iload hx hb d_Mo_findFour_16 (lv_at hl 6 rfl) ?_
    refine zz_ialdN C hK hP 2 rfl (j := n) (by omega) (by omega) d_Mo_findFour_18 ?_
    refine zz_eqi (y := nI (tw_K n)) (hTn.2) ?_
    refine lv_istore (lv' := [(9, .int (nI (tw_K n))), (0, .ref y0), (1, .long (lN rest)), (3, .int (nI ds)), (4, .long (lN r1)), (6, .int (nI fr)), (7, .int (nI to)), (8, .int (nI n))]) hx hb d_Mo_findFour_19 hl (by decide) rfl (fun ls hl => ?_)
    refine lv_iload hx hb d_Mo_findFour_21 (lv_at hl 5 rfl) ?_
    refine lv_iload hx hb d_Mo_findFour_23 (lv_at hl 6 rfl) ?_
    refine lv_iconst (v := 0) hx hb d_Mo_findFour_25 (by decide) ?_
    refine zz_goi (wr := [(y0, .inr (7, [v0, v1, v2, v3, v4, v5, v6, v7, v8, v9, v10, v11, v12, v13, v14, v15, v16, v17, v18, v19, v20, v21, v22, .ref z8, .ref z9, .int x1, .int x2, .int x3])), (z8, zL E 41 f4), (z9, zI E 41 fo)]) [] [0, 1, 2] rfl rfl (by decide) (by decide) hA hP hD hS (zz_runS (wc := []) (As := [.int (nI fr), .int (nI to), .int 0]) (rest := []) C (c_Mo_spare l E (nI fr) (nI to) 0) ym_Mo_spare wd_ml_Mo_153 wd_st_Mo_spare [] (by decide) rfl hA hK hst hP hD hS rfl hl.1 rfl (Nat.le_of_ble_eq_true rfl) ⟨Nat.le_of_ble_eq_true rfl, Nat.le_of_ble_eq_true rfl⟩ ⟨Nat.le_of_ble_eq_true rfl, Nat.le_of_ble_eq_true rfl⟩ d_Mo_findFour_26) (fun r_16 u H locs hs1 hP hD hS => ?_)
    have hP : va_P E.1 vwCl [(y0, .inr (7, [v0, v1, v2, v3, v4, v5, v6, v7, v8, v9, v10, v11, v12, v13, v14, v15, v16, v17, v18, v19, v20, v21, v22, .ref z8, .ref z9, .int x1, .int x2, .int x3])), (z8, zL E 41 f4), (z9, zI E 41 fo)] H := hP
    have hD : va_D A [(y0, .inr (7, [v0, v1, v2, v3, v4, v5, v6, v7, v8, v9, v10, v11, v12, v13, v14, v15, v16, v17, v18, v19, v20, v21, v22, .ref z8, .ref z9, .int x1, .int x2, .int x3])), (z8, zL E 41 f4), (z9, zI E 41 fo)] := hD
    rw [hsp.1] at hs1
    subst hs1
    refine lv_istore (lv' := [(10, .int (nI (tw_les fr to))), (9, .int (nI (tw_K n))), (0, .ref y0), (1, .long (lN rest)), (3, .int (nI ds)), (4, .long (lN r1)), (6, .int (nI fr)), (7, .int (nI to)), (8, .int (nI n))]) hx hb d_Mo_findFour_29 hl (by decide) rfl (fun ls hl => ?_)
    refine lv_iload hx hb d_Mo_findFour_31 (lv_at hl 6 rfl) ?_
    refine lv_iload hx hb d_Mo_findFour_33 (lv_at hl 7 rfl) ?_
    refine lv_iconst (v := 1) hx hb d_Mo_findFour_35 (by decide) ?_
    refine zz_goi (wr := [(y0, .inr (7, [v0, v1, v2, v3, v4, v5, v6, v7, v8, v9, v10, v11, v12, v13, v14, v15, v16, v17, v18, v19, v20, v21, v22, .ref z8, .ref z9, .int x1, .int x2, .int x3])), (z8, zL E 41 f4), (z9, zI E 41 fo)]) [] [0, 1, 2] rfl rfl (by decide) (by decide) hA hP hD hS (zz_runS (wc := []) (As := [.int (nI fr), .int (nI to), .int 1]) (rest := []) C (c_Mo_spare l E (nI fr) (nI to) 1) ym_Mo_spare wd_ml_Mo_153 wd_st_Mo_spare [] (by decide) rfl hA hK hst hP hD hS rfl hl.1 rfl (Nat.le_of_ble_eq_true rfl) ⟨Nat.le_of_ble_eq_true rfl, Nat.le_of_ble_eq_true rfl⟩ ⟨Nat.le_of_ble_eq_true rfl, Nat.le_of_ble_eq_true rfl⟩ d_Mo_findFour_36) (fun r_17 u H locs hs2 hP hD hS => ?_)
    have hP : va_P E.1 vwCl [(y0, .inr (7, [v0, v1, v2, v3, v4, v5, v6, v7, v8, v9, v10, v11, v12, v13, v14, v15, v16, v17, v18, v19, v20, v21, v22, .ref z8, .ref z9, .int x1, .int x2, .int x3])), (z8, zL E 41 f4), (z9, zI E 41 fo)] H := hP
    have hD : va_D A [(y0, .inr (7, [v0, v1, v2, v3, v4, v5, v6, v7, v8, v9, v10, v11, v12, v13, v14, v15, v16, v17, v18, v19, v20, v21, v22, .ref z8, .ref z9, .int x1, .int x2, .int x3])), (z8, zL E 41 f4), (z9, zI E 41 fo)] := hD
    rw [hsp.2.1] at hs2
    subst hs2
    refine lv_istore (lv' := [(11, .int (nI (6 - fr - to - tw_les fr to))), (10, .int (nI (tw_les fr to))), (9, .int (nI (tw_K n))), (0, .ref y0), (1, .long (lN rest)), (3, .int (nI ds)), (4, .long (lN r1)), (6, .int (nI fr)), (7, .int (nI to)), (8, .int (nI n))]) hx hb d_Mo_findFour_39 hl (by decide) rfl (fun ls hl => ?_)
    refine lv_lload hx hb d_Mo_findFour_41 (lv_at hl 6 rfl) ?_
    refine lv_aload_n hx hb d_Mo_findFour_43 rfl (lv_at hl 3 rfl) ?_
    refine zz_get C hK hP fl_Mo_57 0 rfl rfl d_Mo_findFour_44 ?_
    refine lv_iload hx hb d_Mo_findFour_47 (lv_at hl 2 rfl) ?_
    refine zz_laldN C hK hP 1 rfl (j := (tw_K n)) (by omega) (by omega) d_Mo_findFour_49 ?_
    refine zz_eql (y := lN (tw_F (tw_K n))) (hTk.1) ?_
    refine W.lcmp hx hb d_Mo_findFour_50 ?_
    refine lv_if_ge (tgt := 61) hx hb d_Mo_findFour_51 (by decide) (fun c_18 => ?_) (fun c_18 => ?_)
    · have hge : ¬ r1 < tw_F (tw_K n) := fun z => by
        have h9 := (lg_cmp_ge _ _).mp c_18
        rw [pk_lLE (by omega) (by omega)] at h9
        omega
      refine lv_lload hx hb d_Mo_findFour_61 (lv_at hl 6 rfl) ?_
      refine lv_aload_n hx hb d_Mo_findFour_63 rfl (lv_at hl 3 rfl) ?_
      refine zz_get C hK hP fl_Mo_57 0 rfl rfl d_Mo_findFour_64 ?_
      refine lv_iload hx hb d_Mo_findFour_67 (lv_at hl 2 rfl) ?_
      refine zz_laldN C hK hP 1 rfl (j := (tw_K n)) (by omega) (by omega) d_Mo_findFour_69 ?_
      refine zz_eql (y := lN (tw_F (tw_K n))) (hTk.1) ?_
      refine lv_iload hx hb d_Mo_findFour_70 (lv_at hl 9 rfl) ?_
      refine lv_iload hx hb d_Mo_findFour_72 (lv_at hl 2 rfl) ?_
      refine lv_isub hx hb d_Mo_findFour_74 ?_
      refine zz_eqi (y := nI (n - tw_K n)) (pk_sub (by omega)) ?_
      refine zz_gol (wr := [(y0, .inr (7, [v0, v1, v2, v3, v4, v5, v6, v7, v8, v9, v10, v11, v12, v13, v14, v15, v16, v17, v18, v19, v20, v21, v22, .ref z8, .ref z9, .int x1, .int x2, .int x3])), (z8, zL E 41 f4), (z9, zI E 41 fo)]) [] [0, 1, 2] rfl rfl (by decide) (by decide) hA hP hD hS (zz_runS (wc := []) (As := [.int (nI (n - tw_K n))]) (rest := [.long (lN (tw_F (tw_K n))), .long (lN r1)]) C (c_Mo_three l E (n - tw_K n) (by omega)) ym_Mo_three wd_ml_Mo_68 wd_st_Mo_three [] (by decide) rfl hA hK hst hP hD hS rfl hl.1 rfl (Nat.le_of_ble_eq_true rfl) ⟨Nat.le_of_ble_eq_true rfl, Nat.le_of_ble_eq_true rfl⟩ ⟨Nat.le_of_ble_eq_true rfl, Nat.le_of_ble_eq_true rfl⟩ d_Mo_findFour_75) (fun r_19 u H locs hw3 hP hD hS => ?_)
      have hP : va_P E.1 vwCl [(y0, .inr (7, [v0, v1, v2, v3, v4, v5, v6, v7, v8, v9, v10, v11, v12, v13, v14, v15, v16, v17, v18, v19, v20, v21, v22, .ref z8, .ref z9, .int x1, .int x2, .int x3])), (z8, zL E 41 f4), (z9, zI E 41 fo)] H := hP
      have hD : va_D A [(y0, .inr (7, [v0, v1, v2, v3, v4, v5, v6, v7, v8, v9, v10, v11, v12, v13, v14, v15, v16, v17, v18, v19, v20, v21, v22, .ref z8, .ref z9, .int x1, .int x2, .int x3])), (z8, zL E 41 f4), (z9, zI E 41 fo)] := hD
      subst hw3
      refine lv_ladd hx hb d_Mo_findFour_78 ?_
      refine zz_eql (y := lN (tw_F (tw_K n) + (2 ^ (n - tw_K n) - 1))) (lN_add _ _) ?_
      refine W.lcmp hx hb d_Mo_findFour_79 ?_
      refine lv_if_ge (tgt := 111) hx hb d_Mo_findFour_80 (by decide) (fun c_20 => ?_) (fun c_20 => ?_)
      · have hge2 : ¬ r1 - tw_F (tw_K n) < 2 ^ (n - tw_K n) - 1 := fun z => by
          have h9 := (lg_cmp_ge _ _).mp c_20
          rw [pk_lLE (by omega) (by omega)] at h9
          omega
        refine lv_lload hx hb d_Mo_findFour_111 (lv_at hl 6 rfl) ?_
        refine lv_aload_n hx hb d_Mo_findFour_113 rfl (lv_at hl 3 rfl) ?_
        refine zz_get C hK hP fl_Mo_57 0 rfl rfl d_Mo_findFour_114 ?_
        refine lv_iload hx hb d_Mo_findFour_117 (lv_at hl 2 rfl) ?_
        refine zz_laldN C hK hP 1 rfl (j := (tw_K n)) (by omega) (by omega) d_Mo_findFour_119 ?_
        refine zz_eql (y := lN (tw_F (tw_K n))) (hTk.1) ?_
        refine lv_iload hx hb d_Mo_findFour_120 (lv_at hl 9 rfl) ?_
        refine lv_iload hx hb d_Mo_findFour_122 (lv_at hl 2 rfl) ?_
        refine lv_isub hx hb d_Mo_findFour_124 ?_
        refine zz_eqi (y := nI (n - tw_K n)) (pk_sub (by omega)) ?_
        refine zz_gol (wr := [(y0, .inr (7, [v0, v1, v2, v3, v4, v5, v6, v7, v8, v9, v10, v11, v12, v13, v14, v15, v16, v17, v18, v19, v20, v21, v22, .ref z8, .ref z9, .int x1, .int x2, .int x3])), (z8, zL E 41 f4), (z9, zI E 41 fo)]) [] [0, 1, 2] rfl rfl (by decide) (by decide) hA hP hD hS (zz_runS (wc := []) (As := [.int (nI (n - tw_K n))]) (rest := [.long (lN (tw_F (tw_K n))), .long (lN r1)]) C (c_Mo_three l E (n - tw_K n) (by omega)) ym_Mo_three wd_ml_Mo_68 wd_st_Mo_three [] (by decide) rfl hA hK hst hP hD hS rfl hl.1 rfl (Nat.le_of_ble_eq_true rfl) ⟨Nat.le_of_ble_eq_true rfl, Nat.le_of_ble_eq_true rfl⟩ ⟨Nat.le_of_ble_eq_true rfl, Nat.le_of_ble_eq_true rfl⟩ d_Mo_findFour_125) (fun r_22 u H locs hw3 hP hD hS => ?_)
        have hP : va_P E.1 vwCl [(y0, .inr (7, [v0, v1, v2, v3, v4, v5, v6, v7, v8, v9, v10, v11, v12, v13, v14, v15, v16, v17, v18, v19, v20, v21, v22, .ref z8, .ref z9, .int x1, .int x2, .int x3])), (z8, zL E 41 f4), (z9, zI E 41 fo)] H := hP
        have hD : va_D A [(y0, .inr (7, [v0, v1, v2, v3, v4, v5, v6, v7, v8, v9, v10, v11, v12, v13, v14, v15, v16, v17, v18, v19, v20, v21, v22, .ref z8, .ref z9, .int x1, .int x2, .int x3])), (z8, zL E 41 f4), (z9, zI E 41 fo)] := hD
        subst hw3
        refine lv_ladd hx hb d_Mo_findFour_128 ?_
        refine zz_eql (y := lN (tw_F (tw_K n) + (2 ^ (n - tw_K n) - 1))) (lN_add _ _) ?_
        refine lv_lsub hx hb d_Mo_findFour_129 ?_
        refine zz_eql (y := lN (r1 - tw_F (tw_K n) - (2 ^ (n - tw_K n) - 1))) ((lN_sub (by omega)).trans (by rw [Nat.sub_sub])) ?_
        refine lv_lstore (lv' := [(4, .long (lN (r1 - tw_F (tw_K n) - (2 ^ (n - tw_K n) - 1)))), (11, .int (nI (6 - fr - to - tw_les fr to))), (10, .int (nI (tw_les fr to))), (9, .int (nI (tw_K n))), (0, .ref y0), (1, .long (lN rest)), (3, .int (nI ds)), (6, .int (nI fr)), (7, .int (nI to)), (8, .int (nI n))]) hx hb d_Mo_findFour_130 hl (by decide) rfl (fun ls hl => ?_)
        refine lv_iload hx hb d_Mo_findFour_132 (lv_at hl 2 rfl) ?_
        refine lv_istore (lv' := [(6, .int (nI (tw_les fr to))), (4, .long (lN (r1 - tw_F (tw_K n) - (2 ^ (n - tw_K n) - 1)))), (11, .int (nI (6 - fr - to - tw_les fr to))), (10, .int (nI (tw_les fr to))), (9, .int (nI (tw_K n))), (0, .ref y0), (1, .long (lN rest)), (3, .int (nI ds)), (7, .int (nI to)), (8, .int (nI n))]) hx hb d_Mo_findFour_134 hl (by decide) rfl (fun ls hl => ?_)
        refine lv_iload hx hb d_Mo_findFour_136 (lv_at hl 4 rfl) ?_
        refine lv_istore (lv' := [(8, .int (nI (tw_K n))), (6, .int (nI (tw_les fr to))), (4, .long (lN (r1 - tw_F (tw_K n) - (2 ^ (n - tw_K n) - 1)))), (11, .int (nI (6 - fr - to - tw_les fr to))), (10, .int (nI (tw_les fr to))), (9, .int (nI (tw_K n))), (0, .ref y0), (1, .long (lN rest)), (3, .int (nI ds)), (7, .int (nI to))]) hx hb d_Mo_findFour_138 hl (by decide) rfl (fun ls hl => ?_)
        refine lv_goto (tgt := 12) hx hb d_Mo_findFour_140 (by decide) ?_
        exact ih (tw_K n) (r1 - tw_F (tw_K n) - (2 ^ (n - tw_K n) - 1)) (tw_les fr to) to (by omega) (by omega) hsp.2.2.1 ht hsp.2.2.2.2 (by omega) (fun wh => by rw [← hgo wh]; conv => rhs; rw [tw_four, if_neg hn0, if_neg hge, if_neg hge2]) _ _ ls hP hD hS (lv_sub hl [6, 7, 8, 2, 1, 9, 0] rfl)
      · have hlt2 : r1 - tw_F (tw_K n) < 2 ^ (n - tw_K n) - 1 := by
          rcases Nat.lt_or_ge r1 (tw_F (tw_K n) + (2 ^ (n - tw_K n) - 1)) with q | q
          · omega
          · exact absurd ((lg_cmp_ge _ _).mpr (by rw [pk_lLE (by omega) (by omega)]; exact q)) c_20
        refine lv_aload_n hx hb d_Mo_findFour_83 rfl (lv_at hl 3 rfl) ?_
        refine lv_lload hx hb d_Mo_findFour_84 (lv_at hl 6 rfl) ?_
        refine lv_aload_n hx hb d_Mo_findFour_86 rfl (lv_at hl 3 rfl) ?_
        refine zz_get C hK hP fl_Mo_57 0 rfl rfl d_Mo_findFour_87 ?_
        refine lv_iload hx hb d_Mo_findFour_90 (lv_at hl 2 rfl) ?_
        refine zz_laldN C hK hP 1 rfl (j := (tw_K n)) (by omega) (by omega) d_Mo_findFour_92 ?_
        refine zz_eql (y := lN (tw_F (tw_K n))) (hTk.1) ?_
        refine lv_lsub hx hb d_Mo_findFour_93 ?_
        refine zz_eql (y := lN (r1 - tw_F (tw_K n))) (lN_sub (by omega)) ?_
        refine lv_iload hx hb d_Mo_findFour_94 (lv_at hl 9 rfl) ?_
        refine lv_iload hx hb d_Mo_findFour_96 (lv_at hl 2 rfl) ?_
        refine lv_isub hx hb d_Mo_findFour_98 ?_
        refine zz_eqi (y := nI (n - tw_K n)) (pk_sub (by omega)) ?_
        refine lv_iload hx hb d_Mo_findFour_99 (lv_at hl 2 rfl) ?_
        refine lv_iload hx hb d_Mo_findFour_101 (lv_at hl 7 rfl) ?_
        refine lv_iload hx hb d_Mo_findFour_103 (lv_at hl 8 rfl) ?_
        refine lv_iload hx hb d_Mo_findFour_105 (lv_at hl 0 rfl) ?_
        refine zz_gov (wr := [(z8, zL E 41 f4), (z9, zI E 41 fo)]) [0] [1, 2] rfl rfl (by decide) (by decide) hA hP hD hS (zz_runV (wc := [(y0, .inr (7, [v0, v1, v2, v3, v4, v5, v6, v7, v8, v9, v10, v11, v12, v13, v14, v15, v16, v17, v18, v19, v20, v21, v22, .ref z8, .ref z9, .int x1, .int x2, .int x3]))]) (As := [.long (lN (r1 - tw_F (tw_K n))), .int (nI (n - tw_K n)), .int (nI (tw_K n)), .int (nI fr), .int (nI to), .int (nI (6 - fr - to - tw_les fr to))]) (rest := []) C (c_Mo_findThree l E y0 v0 v1 v2 v3 v4 v5 v6 v7 v8 v9 v10 v11 v12 v13 v14 v15 v16 v17 v18 v19 v20 v21 v22 (.ref z8) (.ref z9) (r1 - tw_F (tw_K n)) (tw_K n) (n - tw_K n) (nI fr) (nI to) (nI (6 - fr - to - tw_les fr to)) x1 x2 x3 hlt2 (by omega)) ym_Mo_findThree wd_ml_Mo_157 wd_im_Mo_findThree wd_se_Mo_findThree [0] (by decide) rfl hA hK hst hP hD hS (ci := 7) (q0 := 0) rfl rfl rfl rfl hl.1 rfl (Nat.le_of_ble_eq_true rfl) ⟨Nat.le_of_ble_eq_true rfl, Nat.le_of_ble_eq_true rfl⟩ ⟨Nat.le_of_ble_eq_true rfl, Nat.le_of_ble_eq_true rfl⟩ d_Mo_findFour_107) (fun u2 H locs hw2 hP hD hS => ?_)
        have hP : va_P E.1 vwCl [(z8, zL E 41 f4), (z9, zI E 41 fo), (y0, .inr (7, [v0, v1, v2, v3, v4, v5, v6, v7, v8, v9, v10, v11, v12, v13, v14, v15, v16, v17, v18, v19, v20, v21, v22, .ref z8, .ref z9, .int u2.1, .int u2.2.1, .int u2.2.2]))] H := hP
        have hD : va_D A [(z8, zL E 41 f4), (z9, zI E 41 fo), (y0, .inr (7, [v0, v1, v2, v3, v4, v5, v6, v7, v8, v9, v10, v11, v12, v13, v14, v15, v16, v17, v18, v19, v20, v21, v22, .ref z8, .ref z9, .int u2.1, .int u2.2.1, .int u2.2.2]))] := hD
        have hP := hP.sub (ws' := [(y0, .inr (7, [v0, v1, v2, v3, v4, v5, v6, v7, v8, v9, v10, v11, v12, v13, v14, v15, v16, v17, v18, v19, v20, v21, v22, .ref z8, .ref z9, .int u2.1, .int u2.2.1, .int u2.2.2])), (z8, zL E 41 f4), (z9, zI E 41 fo)]) [2, 0, 1] rfl
        have hD := hD.sub (ws' := [(y0, .inr (7, [v0, v1, v2, v3, v4, v5, v6, v7, v8, v9, v10, v11, v12, v13, v14, v15, v16, v17, v18, v19, v20, v21, v22, .ref z8, .ref z9, .int u2.1, .int u2.2.1, .int u2.2.2])), (z8, zL E 41 f4), (z9, zI E 41 fo)]) [2, 0, 1] (by decide) rfl
        exact zz_retv C hS u2 (fun wh => by rw [← hgo wh, tw_four, if_neg hn0, if_neg hge, if_pos hlt2]; exact hw2 wh) hP hD d_Mo_findFour_110
    · have hlt : r1 < tw_F (tw_K n) := by
        rcases Nat.lt_or_ge r1 (tw_F (tw_K n)) with q | q
        · exact q
        · exact absurd ((lg_cmp_ge _ _).mpr (by rw [pk_lLE (by omega) (by omega)]; exact q)) c_18
      refine lv_iload hx hb d_Mo_findFour_54 (lv_at hl 1 rfl) ?_
      refine lv_istore (lv' := [(7, .int (nI (tw_les fr to))), (11, .int (nI (6 - fr - to - tw_les fr to))), (10, .int (nI (tw_les fr to))), (9, .int (nI (tw_K n))), (0, .ref y0), (1, .long (lN rest)), (3, .int (nI ds)), (4, .long (lN r1)), (6, .int (nI fr)), (8, .int (nI n))]) hx hb d_Mo_findFour_56 hl (by decide) rfl (fun ls hl => ?_)
      refine lv_goto (tgt := 136) hx hb d_Mo_findFour_58 (by decide) ?_
      refine lv_iload hx hb d_Mo_findFour_136 (lv_at hl 3 rfl) ?_
      refine lv_istore (lv' := [(8, .int (nI (tw_K n))), (7, .int (nI (tw_les fr to))), (11, .int (nI (6 - fr - to - tw_les fr to))), (10, .int (nI (tw_les fr to))), (9, .int (nI (tw_K n))), (0, .ref y0), (1, .long (lN rest)), (3, .int (nI ds)), (4, .long (lN r1)), (6, .int (nI fr))]) hx hb d_Mo_findFour_138 hl (by decide) rfl (fun ls hl => ?_)
      refine lv_goto (tgt := 12) hx hb d_Mo_findFour_140 (by decide) ?_
      exact ih (tw_K n) r1 fr (tw_les fr to) (by omega) (by omega) hf hsp.2.2.1 (fun z => hsp.2.2.2.1 z.symm) hlt (fun wh => by rw [← hgo wh]; conv => rhs; rw [tw_four, if_neg hn0, if_pos hlt]) _ _ ls hP hD hS (lv_sub hl [5, 6, 7, 8, 9, 1, 0] rfl)

set_option maxHeartbeats 4000000 in
set_option maxRecDepth 100000 in
theorem c_Mo_findFour (l : Launch) (E : zG) (y0 : Nat) (v0 v1 v2 v3 v4 v5 v6 v7 v8 v9 v10 v11 v12 v13 v14 v15 v16 v17 v18 v19 v20 v21 v22 : Value) (z8 z9 rest ds : Nat) (f4 : Nat → Int64) (fo : Nat → Int32) (x1 x2 x3 : Int32) (hd : ds ≤ 40) (hr0 : rest < tw_F ds) (hT : ∀ j, j < 41 → f4 j = lN (tw_F j) ∧ fo j = nI (tw_K j)) : zMet l y_Mo_findFour b_Mo_findFour 12 none 2 54 0 0 E [.ref y0, .long (lN rest), .int (nI ds)] [(y0, .inr (7, [v0, v1, v2, v3, v4, v5, v6, v7, v8, v9, v10, v11, v12, v13, v14, v15, v16, v17, v18, v19, v20, v21, v22, .ref z8, .ref z9, .int x1, .int x2, .int x3])), (z8, zL E 41 f4), (z9, zI E 41 fo)] (zQv E (S := Int32 × Int32 × Int32) (fun u => ∀ wh, tw_four wh 40 ds rest 0 1 = mo_pick wh u) (fun u => [(y0, .inr (7, [v0, v1, v2, v3, v4, v5, v6, v7, v8, v9, v10, v11, v12, v13, v14, v15, v16, v17, v18, v19, v20, v21, v22, .ref z8, .ref z9, .int u.1, .int u.2.1, .int u.2.2])), (z8, zL E 41 f4), (z9, zI E 41 fo)])) := by
  refine zz_met (by decide +kernel) (Nat.le_of_ble_eq_true rfl) ?_
  intro p e s m below meth c A ls C hin hA hK hst hP hD hl
  obtain ⟨hx, hb, hr, hml, hown, hts, hlk⟩ := id C
  have hS : va_S A s.heap s.heap [] := va_S.rf
  have hl : lv_has ls 12 [(0, .ref y0), (1, .long (lN rest)), (3, .int (nI ds))] := hl
  refine lv_lload_n hx hb d_Mo_findFour_0 rfl (lv_at hl 1 rfl) ?_
  refine lv_lstore (lv' := [(4, .long (lN rest)), (0, .ref y0), (1, .long (lN rest)), (3, .int (nI ds))]) hx hb d_Mo_findFour_1 hl (by decide) rfl (fun ls hl => ?_)
  refine lv_iconst (v := 0) hx hb d_Mo_findFour_3 (by decide) ?_
  refine zz_eqi (y := nI 0) (rfl) ?_
  refine lv_istore (lv' := [(6, .int (nI 0)), (4, .long (lN rest)), (0, .ref y0), (1, .long (lN rest)), (3, .int (nI ds))]) hx hb d_Mo_findFour_4 hl (by decide) rfl (fun ls hl => ?_)
  refine lv_iconst (v := 1) hx hb d_Mo_findFour_6 (by decide) ?_
  refine zz_eqi (y := nI 1) (rfl) ?_
  refine lv_istore (lv' := [(7, .int (nI 1)), (6, .int (nI 0)), (4, .long (lN rest)), (0, .ref y0), (1, .long (lN rest)), (3, .int (nI ds))]) hx hb d_Mo_findFour_7 hl (by decide) rfl (fun ls hl => ?_)
  refine lv_iload_n hx hb d_Mo_findFour_9 rfl (lv_at hl 5 rfl) ?_
  refine lv_istore (lv' := [(8, .int (nI ds)), (7, .int (nI 1)), (6, .int (nI 0)), (4, .long (lN rest)), (0, .ref y0), (1, .long (lN rest)), (3, .int (nI ds))]) hx hb d_Mo_findFour_10 hl (by decide) rfl (fun ls hl => ?_)
  exact lp_Mo_findFour hT C hA hK hst 40 ds rest 0 1 hd hd (by decide) (by decide) (by decide) hr0 (fun _ => rfl) _ _ ls hP hD hS (lv_sub hl [4, 5, 6, 3, 2, 1, 0] rfl)

set_option maxHeartbeats 4000000 in
set_option maxRecDepth 100000 in
theorem c_Mo_towerMove_neg (l : Launch) (E : zG) (y0 : Nat) (v1 v2 v3 v4 v5 v6 v7 v8 v9 v10 v11 v12 v13 v14 v15 v16 v17 v18 v19 v20 : Value) (z8 z9 pg ds : Nat) (f4 : Nat → Int64) (fo : Nat → Int32) (th x1 x2 x3 : Int32) (kx : Int64) (wh : Int32) (hk : kx < 0) : zMet l y_Mo_towerMove b_Mo_towerMove 4 (some .int) 3 85 0 0 E [.ref y0, .long kx, .int wh] [(y0, .inr (7, [.int th, v1, v2, v3, v4, v5, v6, v7, v8, v9, v10, v11, v12, v13, v14, v15, v16, v17, v18, v19, v20, .int (nI pg), .int (nI ds), .ref z8, .ref z9, .int x1, .int x2, .int x3])), (z8, zL E 41 f4), (z9, zI E 41 fo)] (zQi E (S := Int32 × Int32 × Int32) (fun r _ => r = -1) (fun u => [(y0, .inr (7, [.int 0, v1, v2, v3, v4, v5, v6, v7, v8, v9, v10, v11, v12, v13, v14, v15, v16, v17, v18, v19, v20, .int (nI pg), .int (nI ds), .ref z8, .ref z9, .int u.1, .int u.2.1, .int u.2.2])), (z8, zL E 41 f4), (z9, zI E 41 fo)])) := by
  refine zz_met (by decide +kernel) (Nat.le_of_ble_eq_true rfl) ?_
  intro p e s m below meth c A ls C hin hA hK hst hP hD hl
  obtain ⟨hx, hb, hr, hml, hown, hts, hlk⟩ := id C
  have hS : va_S A s.heap s.heap [] := va_S.rf
  have hl : lv_has ls 4 [(0, .ref y0), (1, .long kx), (3, .int wh)] := hl
  refine lv_aload_n hx hb d_Mo_towerMove_0 rfl (lv_at hl 0 rfl) ?_
  refine lv_iconst (v := 0) hx hb d_Mo_towerMove_1 (by decide) ?_
  refine zz_put C hK hP hD hS fl_Mo_72 0 rfl rfl rfl (Nat.le_of_ble_eq_true rfl) d_Mo_towerMove_2 (fun H locs hP hD hS => ?_)
  have hP : va_P E.1 vwCl [(y0, .inr (7, [.int 0, v1, v2, v3, v4, v5, v6, v7, v8, v9, v10, v11, v12, v13, v14, v15, v16, v17, v18, v19, v20, .int (nI pg), .int (nI ds), .ref z8, .ref z9, .int x1, .int x2, .int x3])), (z8, zL E 41 f4), (z9, zI E 41 fo)] H := hP
  have hD : va_D A [(y0, .inr (7, [.int 0, v1, v2, v3, v4, v5, v6, v7, v8, v9, v10, v11, v12, v13, v14, v15, v16, v17, v18, v19, v20, .int (nI pg), .int (nI ds), .ref z8, .ref z9, .int x1, .int x2, .int x3])), (z8, zL E 41 f4), (z9, zI E 41 fo)] := hD
  refine lv_lload_n hx hb d_Mo_towerMove_5 rfl (lv_at hl 1 rfl) ?_
  refine lv_lconst (v := 0) hx hb d_Mo_towerMove_6 (by decide) ?_
  refine W.lcmp hx hb d_Mo_towerMove_7 ?_
  refine lv_if_lt (tgt := 29) hx hb d_Mo_towerMove_8 (by decide) (fun c_23 => ?_) (fun c_23 => ?_)
  · refine lv_iconst (v := (-1)) hx hb d_Mo_towerMove_29 (by decide) ?_
    exact zz_reti C (rfl) hS (x1, x2, x3) (rfl) hP hD d_Mo_towerMove_30
  · exact absurd ((lg_cmp_lt _ _).mpr hk) c_23

set_option maxHeartbeats 4000000 in
set_option maxRecDepth 100000 in
theorem c_Mo_towerMove_pos (l : Launch) (E : zG) (y0 : Nat) (v1 v2 v3 v4 v5 v6 v7 v8 v9 v10 v11 v12 v13 v14 v15 v16 v17 v18 v19 v20 : Value) (z8 z9 pg ds : Nat) (f4 : Nat → Int64) (fo : Nat → Int32) (th x1 x2 x3 : Int32) (rest : Nat) (wh : Int32) (hr0 : rest < 9223372036854775808) (hp : pg = 3 ∨ pg = 4) (hd : ds ≤ 40) (hT : ∀ j, j < 41 → f4 j = lN (tw_F j) ∧ fo j = nI (tw_K j)) : zMet l y_Mo_towerMove b_Mo_towerMove 4 (some .int) 3 85 0 0 E [.ref y0, .long (lN rest), .int wh] [(y0, .inr (7, [.int th, v1, v2, v3, v4, v5, v6, v7, v8, v9, v10, v11, v12, v13, v14, v15, v16, v17, v18, v19, v20, .int (nI pg), .int (nI ds), .ref z8, .ref z9, .int x1, .int x2, .int x3])), (z8, zL E 41 f4), (z9, zI E 41 fo)] (zQi E (S := Int32 × Int32 × Int32) (fun r _ => r = tw_tell pg ds rest wh) (fun u => [(y0, .inr (7, [.int 0, v1, v2, v3, v4, v5, v6, v7, v8, v9, v10, v11, v12, v13, v14, v15, v16, v17, v18, v19, v20, .int (nI pg), .int (nI ds), .ref z8, .ref z9, .int u.1, .int u.2.1, .int u.2.2])), (z8, zL E 41 f4), (z9, zI E 41 fo)])) := by
  refine zz_met (by decide +kernel) (Nat.le_of_ble_eq_true rfl) ?_
  intro p e s m below meth c A ls C hin hA hK hst hP hD hl
  obtain ⟨hx, hb, hr, hml, hown, hts, hlk⟩ := id C
  have hS : va_S A s.heap s.heap [] := va_S.rf
  have hl : lv_has ls 4 [(0, .ref y0), (1, .long (lN rest)), (3, .int wh)] := hl
  have hML := tw_M_lt (pg := pg) hd
  refine lv_aload_n hx hb d_Mo_towerMove_0 rfl (lv_at hl 0 rfl) ?_
  refine lv_iconst (v := 0) hx hb d_Mo_towerMove_1 (by decide) ?_
  refine zz_put C hK hP hD hS fl_Mo_72 0 rfl rfl rfl (Nat.le_of_ble_eq_true rfl) d_Mo_towerMove_2 (fun H locs hP hD hS => ?_)
  have hP : va_P E.1 vwCl [(y0, .inr (7, [.int 0, v1, v2, v3, v4, v5, v6, v7, v8, v9, v10, v11, v12, v13, v14, v15, v16, v17, v18, v19, v20, .int (nI pg), .int (nI ds), .ref z8, .ref z9, .int x1, .int x2, .int x3])), (z8, zL E 41 f4), (z9, zI E 41 fo)] H := hP
  have hD : va_D A [(y0, .inr (7, [.int 0, v1, v2, v3, v4, v5, v6, v7, v8, v9, v10, v11, v12, v13, v14, v15, v16, v17, v18, v19, v20, .int (nI pg), .int (nI ds), .ref z8, .ref z9, .int x1, .int x2, .int x3])), (z8, zL E 41 f4), (z9, zI E 41 fo)] := hD
  refine lv_lload_n hx hb d_Mo_towerMove_5 rfl (lv_at hl 1 rfl) ?_
  refine lv_lconst (v := 0) hx hb d_Mo_towerMove_6 (by decide) ?_
  refine W.lcmp hx hb d_Mo_towerMove_7 ?_
  refine lv_if_lt (tgt := 29) hx hb d_Mo_towerMove_8 (by decide) (fun c_24 => ?_) (fun c_24 => ?_)
  · exact absurd ((lg_cmp_lt _ _).mp c_24) (by rw [show (0 : Int64) = lN 0 from rfl, pk_lLT hr0 (by decide)]; exact Nat.not_lt_zero _)
  · refine lv_lload_n hx hb d_Mo_towerMove_11 rfl (lv_at hl 1 rfl) ?_
    refine lv_aload_n hx hb d_Mo_towerMove_12 rfl (lv_at hl 0 rfl) ?_
    refine zz_gol (wr := [(z9, zI E 41 fo)]) [0, 1] [2] rfl rfl (by decide) (by decide) hA hP hD hS (zz_runV (wc := [(y0, .inr (7, [.int 0, v1, v2, v3, v4, v5, v6, v7, v8, v9, v10, v11, v12, v13, v14, v15, v16, v17, v18, v19, v20, .int (nI pg), .int (nI ds), .ref z8, .ref z9, .int x1, .int x2, .int x3])), (z8, zL E 41 f4)]) (As := []) (rest := [.long (lN rest)]) C (c_Mo_all l E y0 v1 v2 v3 v4 v5 v6 v7 v8 v9 v10 v11 v12 v13 v14 v15 v16 v17 v18 v19 v20 (.ref z9) (.int x1) (.int x2) (.int x3) 0 z8 pg ds f4 hp hd (fun j hj => (hT j hj).1)) ym_Mo_all wd_ml_Mo_140 wd_im_Mo_all wd_se_Mo_all [0, 1] (by decide) rfl hA hK hst hP hD hS (ci := 7) (q0 := 0) rfl rfl rfl rfl hl.1 rfl (Nat.le_of_ble_eq_true rfl) ⟨Nat.le_of_ble_eq_true rfl, Nat.le_of_ble_eq_true rfl⟩ ⟨Nat.le_of_ble_eq_true rfl, Nat.le_of_ble_eq_true rfl⟩ d_Mo_towerMove_13) (fun r_25 u H locs hwa hP hD hS => ?_)
    have hP : va_P E.1 vwCl [(z9, zI E 41 fo), (y0, .inr (7, [.int 0, v1, v2, v3, v4, v5, v6, v7, v8, v9, v10, v11, v12, v13, v14, v15, v16, v17, v18, v19, v20, .int (nI pg), .int (nI ds), .ref z8, .ref z9, .int x1, .int x2, .int x3])), (z8, zL E 41 f4)] H := hP
    have hD : va_D A [(z9, zI E 41 fo), (y0, .inr (7, [.int 0, v1, v2, v3, v4, v5, v6, v7, v8, v9, v10, v11, v12, v13, v14, v15, v16, v17, v18, v19, v20, .int (nI pg), .int (nI ds), .ref z8, .ref z9, .int x1, .int x2, .int x3])), (z8, zL E 41 f4)] := hD
    subst hwa
    have hP := hP.sub (ws' := [(y0, .inr (7, [.int 0, v1, v2, v3, v4, v5, v6, v7, v8, v9, v10, v11, v12, v13, v14, v15, v16, v17, v18, v19, v20, .int (nI pg), .int (nI ds), .ref z8, .ref z9, .int x1, .int x2, .int x3])), (z8, zL E 41 f4), (z9, zI E 41 fo)]) [1, 2, 0] rfl
    have hD := hD.sub (ws' := [(y0, .inr (7, [.int 0, v1, v2, v3, v4, v5, v6, v7, v8, v9, v10, v11, v12, v13, v14, v15, v16, v17, v18, v19, v20, .int (nI pg), .int (nI ds), .ref z8, .ref z9, .int x1, .int x2, .int x3])), (z8, zL E 41 f4), (z9, zI E 41 fo)]) [1, 2, 0] (by decide) rfl
    refine W.lcmp hx hb d_Mo_towerMove_16 ?_
    refine lv_if_ge (tgt := 29) hx hb d_Mo_towerMove_17 (by decide) (fun c_26 => ?_) (fun c_26 => ?_)
    · refine lv_iconst (v := (-1)) hx hb d_Mo_towerMove_29 (by decide) ?_
      exact zz_reti C (rfl) hS (x1, x2, x3) (by unfold tw_tell; rw [if_neg (fun z => absurd ((lg_cmp_ge _ _).mp c_26) (by rw [pk_lLE (by omega) (by omega)]; omega))]) hP hD d_Mo_towerMove_30
    · have hlt : rest < tw_M pg ds := by
        rcases Nat.lt_or_ge rest (tw_M pg ds) with q | q
        · exact q
        · exact absurd ((lg_cmp_ge _ _).mpr (by rw [pk_lLE (by omega) (by omega)]; exact q)) c_26
      refine lv_iload_n hx hb d_Mo_towerMove_20 rfl (lv_at hl 2 rfl) ?_
      refine lv_if_lt (tgt := 29) hx hb d_Mo_towerMove_21 (by decide) (fun c_27 => ?_) (fun c_27 => ?_)
      · refine lv_iconst (v := (-1)) hx hb d_Mo_towerMove_29 (by decide) ?_
        exact zz_reti C (rfl) hS (x1, x2, x3) (by unfold tw_tell; rw [if_neg (fun z => z.2.1 c_27)]) hP hD d_Mo_towerMove_30
      · refine lv_iload_n hx hb d_Mo_towerMove_24 rfl (lv_at hl 2 rfl) ?_
        refine lv_iconst (v := 2) hx hb d_Mo_towerMove_25 (by decide) ?_
        refine lv_icmp_le (tgt := 31) hx hb d_Mo_towerMove_26 (by decide) (fun c_28 => ?_) (fun c_28 => ?_)
        · have htl : tw_tell pg ds rest wh = (if pg = 3 then tw_three wh 0 ds rest 0 1 2 else tw_four wh 40 ds rest 0 1) := by unfold tw_tell; rw [if_pos ⟨hlt, c_27, c_28⟩]
          refine lv_aload_n hx hb d_Mo_towerMove_31 rfl (lv_at hl 0 rfl) ?_
          refine zz_get C hK hP fl_Mo_53 0 rfl rfl d_Mo_towerMove_32 ?_
          refine lv_iconst (v := 3) hx hb d_Mo_towerMove_35 (by decide) ?_
          refine lv_icmp_ne (tgt := 55) hx hb d_Mo_towerMove_36 (by decide) (fun c_29 => ?_) (fun c_29 => ?_)
          · have h3 : ¬ pg = 3 := fun z => c_29 (by rw [z]; rfl)
            have hlt4 : rest < tw_F ds := by
              have h9 := hlt
              unfold tw_M at h9
              rw [if_neg h3] at h9
              exact h9
            refine lv_aload_n hx hb d_Mo_towerMove_55 rfl (lv_at hl 0 rfl) ?_
            refine lv_lload_n hx hb d_Mo_towerMove_56 rfl (lv_at hl 1 rfl) ?_
            refine lv_aload_n hx hb d_Mo_towerMove_57 rfl (lv_at hl 0 rfl) ?_
            refine zz_get C hK hP fl_Mo_137 0 rfl rfl d_Mo_towerMove_58 ?_
            refine zz_gov (wr := []) [0, 1, 2] [] rfl rfl (by decide) (by decide) hA hP hD hS (zz_runV (wc := [(y0, .inr (7, [.int 0, v1, v2, v3, v4, v5, v6, v7, v8, v9, v10, v11, v12, v13, v14, v15, v16, v17, v18, v19, v20, .int (nI pg), .int (nI ds), .ref z8, .ref z9, .int x1, .int x2, .int x3])), (z8, zL E 41 f4), (z9, zI E 41 fo)]) (As := [.long (lN rest), .int (nI ds)]) (rest := []) C (c_Mo_findFour l E y0 (.int 0) v1 v2 v3 v4 v5 v6 v7 v8 v9 v10 v11 v12 v13 v14 v15 v16 v17 v18 v19 v20 (.int (nI pg)) (.int (nI ds)) z8 z9 rest ds f4 fo x1 x2 x3 hd hlt4 hT) ym_Mo_findFour wd_ml_Mo_161 wd_im_Mo_findFour wd_se_Mo_findFour [0, 1, 2] (by decide) rfl hA hK hst hP hD hS (ci := 7) (q0 := 0) rfl rfl rfl rfl hl.1 rfl (Nat.le_of_ble_eq_true rfl) ⟨Nat.le_of_ble_eq_true rfl, Nat.le_of_ble_eq_true rfl⟩ ⟨Nat.le_of_ble_eq_true rfl, Nat.le_of_ble_eq_true rfl⟩ d_Mo_towerMove_61) (fun u2 H locs hw2 hP hD hS => ?_)
            have hP : va_P E.1 vwCl [(y0, .inr (7, [.int 0, v1, v2, v3, v4, v5, v6, v7, v8, v9, v10, v11, v12, v13, v14, v15, v16, v17, v18, v19, v20, .int (nI pg), .int (nI ds), .ref z8, .ref z9, .int u2.1, .int u2.2.1, .int u2.2.2])), (z8, zL E 41 f4), (z9, zI E 41 fo)] H := hP
            have hD : va_D A [(y0, .inr (7, [.int 0, v1, v2, v3, v4, v5, v6, v7, v8, v9, v10, v11, v12, v13, v14, v15, v16, v17, v18, v19, v20, .int (nI pg), .int (nI ds), .ref z8, .ref z9, .int u2.1, .int u2.2.1, .int u2.2.2])), (z8, zL E 41 f4), (z9, zI E 41 fo)] := hD
            have hpk : (if pg = 3 then tw_three wh 0 ds rest 0 1 2 else tw_four wh 40 ds rest 0 1) = mo_pick wh u2 := by rw [if_neg h3]; exact hw2 wh
            refine lv_iload_n hx hb d_Mo_towerMove_64 rfl (lv_at hl 2 rfl) ?_
            refine lv_if_ne (tgt := 75) hx hb d_Mo_towerMove_65 (by decide) (fun c_34 => ?_) (fun c_34 => ?_)
            · refine lv_iload_n hx hb d_Mo_towerMove_75 rfl (lv_at hl 2 rfl) ?_
              refine lv_iconst (v := 1) hx hb d_Mo_towerMove_76 (by decide) ?_
              refine lv_icmp_ne (tgt := 87) hx hb d_Mo_towerMove_77 (by decide) (fun c_35 => ?_) (fun c_35 => ?_)
              · refine lv_aload_n hx hb d_Mo_towerMove_87 rfl (lv_at hl 0 rfl) ?_
                refine zz_get C hK hP fl_Mo_150 0 rfl rfl d_Mo_towerMove_88 ?_
                exact zz_reti C (rfl) hS u2 (by rw [htl, hpk]; exact ((if_neg c_34).trans (if_neg c_35)).symm) hP hD d_Mo_towerMove_91
              · refine lv_aload_n hx hb d_Mo_towerMove_80 rfl (lv_at hl 0 rfl) ?_
                refine zz_get C hK hP fl_Mo_147 0 rfl rfl d_Mo_towerMove_81 ?_
                refine lv_goto (tgt := 91) hx hb d_Mo_towerMove_84 (by decide) ?_
                exact zz_reti C (rfl) hS u2 (by rw [htl, hpk]; exact ((if_neg c_34).trans (if_pos c_35)).symm) hP hD d_Mo_towerMove_91
            · refine lv_aload_n hx hb d_Mo_towerMove_68 rfl (lv_at hl 0 rfl) ?_
              refine zz_get C hK hP fl_Mo_144 0 rfl rfl d_Mo_towerMove_69 ?_
              refine lv_goto (tgt := 91) hx hb d_Mo_towerMove_72 (by decide) ?_
              exact zz_reti C (rfl) hS u2 (by rw [htl, hpk]; exact (if_pos c_34).symm) hP hD d_Mo_towerMove_91
          · have h3 : pg = 3 := by
              rcases hp with q | q
              · exact q
              · exact absurd (by rw [q] at c_29; exact c_29) (by decide : ¬ nI 4 = 3)
            have hlt3 : rest < 2 ^ ds - 1 := by
              have h9 := hlt
              unfold tw_M at h9
              rw [if_pos h3] at h9
              exact h9
            refine lv_aload_n hx hb d_Mo_towerMove_39 rfl (lv_at hl 0 rfl) ?_
            refine lv_lload_n hx hb d_Mo_towerMove_40 rfl (lv_at hl 1 rfl) ?_
            refine lv_aload_n hx hb d_Mo_towerMove_41 rfl (lv_at hl 0 rfl) ?_
            refine zz_get C hK hP fl_Mo_137 0 rfl rfl d_Mo_towerMove_42 ?_
            refine lv_iconst (v := 0) hx hb d_Mo_towerMove_45 (by decide) ?_
            refine zz_eqi (y := nI 0) (rfl) ?_
            refine lv_iconst (v := 0) hx hb d_Mo_towerMove_46 (by decide) ?_
            refine lv_iconst (v := 1) hx hb d_Mo_towerMove_47 (by decide) ?_
            refine lv_iconst (v := 2) hx hb d_Mo_towerMove_48 (by decide) ?_
            refine zz_gov (wr := [(z8, zL E 41 f4), (z9, zI E 41 fo)]) [0] [1, 2] rfl rfl (by decide) (by decide) hA hP hD hS (zz_runV (wc := [(y0, .inr (7, [.int 0, v1, v2, v3, v4, v5, v6, v7, v8, v9, v10, v11, v12, v13, v14, v15, v16, v17, v18, v19, v20, .int (nI pg), .int (nI ds), .ref z8, .ref z9, .int x1, .int x2, .int x3]))]) (As := [.long (lN rest), .int (nI ds), .int (nI 0), .int 0, .int 1, .int 2]) (rest := []) C (c_Mo_findThree l E y0 (.int 0) v1 v2 v3 v4 v5 v6 v7 v8 v9 v10 v11 v12 v13 v14 v15 v16 v17 v18 v19 v20 (.int (nI pg)) (.int (nI ds)) (.ref z8) (.ref z9) rest 0 ds 0 1 2 x1 x2 x3 hlt3 (by omega)) ym_Mo_findThree wd_ml_Mo_157 wd_im_Mo_findThree wd_se_Mo_findThree [0] (by decide) rfl hA hK hst hP hD hS (ci := 7) (q0 := 0) rfl rfl rfl rfl hl.1 rfl (Nat.le_of_ble_eq_true rfl) ⟨Nat.le_of_ble_eq_true rfl, Nat.le_of_ble_eq_true rfl⟩ ⟨Nat.le_of_ble_eq_true rfl, Nat.le_of_ble_eq_true rfl⟩ d_Mo_towerMove_49) (fun u2 H locs hw2 hP hD hS => ?_)
            have hP : va_P E.1 vwCl [(z8, zL E 41 f4), (z9, zI E 41 fo), (y0, .inr (7, [.int 0, v1, v2, v3, v4, v5, v6, v7, v8, v9, v10, v11, v12, v13, v14, v15, v16, v17, v18, v19, v20, .int (nI pg), .int (nI ds), .ref z8, .ref z9, .int u2.1, .int u2.2.1, .int u2.2.2]))] H := hP
            have hD : va_D A [(z8, zL E 41 f4), (z9, zI E 41 fo), (y0, .inr (7, [.int 0, v1, v2, v3, v4, v5, v6, v7, v8, v9, v10, v11, v12, v13, v14, v15, v16, v17, v18, v19, v20, .int (nI pg), .int (nI ds), .ref z8, .ref z9, .int u2.1, .int u2.2.1, .int u2.2.2]))] := hD
            have hP := hP.sub (ws' := [(y0, .inr (7, [.int 0, v1, v2, v3, v4, v5, v6, v7, v8, v9, v10, v11, v12, v13, v14, v15, v16, v17, v18, v19, v20, .int (nI pg), .int (nI ds), .ref z8, .ref z9, .int u2.1, .int u2.2.1, .int u2.2.2])), (z8, zL E 41 f4), (z9, zI E 41 fo)]) [2, 0, 1] rfl
            have hD := hD.sub (ws' := [(y0, .inr (7, [.int 0, v1, v2, v3, v4, v5, v6, v7, v8, v9, v10, v11, v12, v13, v14, v15, v16, v17, v18, v19, v20, .int (nI pg), .int (nI ds), .ref z8, .ref z9, .int u2.1, .int u2.2.1, .int u2.2.2])), (z8, zL E 41 f4), (z9, zI E 41 fo)]) [2, 0, 1] (by decide) rfl
            have hpk : (if pg = 3 then tw_three wh 0 ds rest 0 1 2 else tw_four wh 40 ds rest 0 1) = mo_pick wh u2 := by rw [if_pos h3]; exact hw2 wh
            refine lv_goto (tgt := 64) hx hb d_Mo_towerMove_52 (by decide) ?_
            refine lv_iload_n hx hb d_Mo_towerMove_64 rfl (lv_at hl 2 rfl) ?_
            refine lv_if_ne (tgt := 75) hx hb d_Mo_towerMove_65 (by decide) (fun c_31 => ?_) (fun c_31 => ?_)
            · refine lv_iload_n hx hb d_Mo_towerMove_75 rfl (lv_at hl 2 rfl) ?_
              refine lv_iconst (v := 1) hx hb d_Mo_towerMove_76 (by decide) ?_
              refine lv_icmp_ne (tgt := 87) hx hb d_Mo_towerMove_77 (by decide) (fun c_32 => ?_) (fun c_32 => ?_)
              · refine lv_aload_n hx hb d_Mo_towerMove_87 rfl (lv_at hl 0 rfl) ?_
                refine zz_get C hK hP fl_Mo_150 0 rfl rfl d_Mo_towerMove_88 ?_
                exact zz_reti C (rfl) hS u2 (by rw [htl, hpk]; exact ((if_neg c_31).trans (if_neg c_32)).symm) hP hD d_Mo_towerMove_91
              · refine lv_aload_n hx hb d_Mo_towerMove_80 rfl (lv_at hl 0 rfl) ?_
                refine zz_get C hK hP fl_Mo_147 0 rfl rfl d_Mo_towerMove_81 ?_
                refine lv_goto (tgt := 91) hx hb d_Mo_towerMove_84 (by decide) ?_
                exact zz_reti C (rfl) hS u2 (by rw [htl, hpk]; exact ((if_neg c_31).trans (if_pos c_32)).symm) hP hD d_Mo_towerMove_91
            · refine lv_aload_n hx hb d_Mo_towerMove_68 rfl (lv_at hl 0 rfl) ?_
              refine zz_get C hK hP fl_Mo_144 0 rfl rfl d_Mo_towerMove_69 ?_
              refine lv_goto (tgt := 91) hx hb d_Mo_towerMove_72 (by decide) ?_
              exact zz_reti C (rfl) hS u2 (by rw [htl, hpk]; exact (if_pos c_31).symm) hP hD d_Mo_towerMove_91
        · refine lv_iconst (v := (-1)) hx hb d_Mo_towerMove_29 (by decide) ?_
          exact zz_reti C (rfl) hS (x1, x2, x3) (by unfold tw_tell; rw [if_neg (fun z => c_28 z.2.2)]) hP hD d_Mo_towerMove_30

set_option maxHeartbeats 4000000 in
set_option maxRecDepth 100000 in
theorem lp_Mo_init1 {p : Program} {l : Launch} {e : Env} {s : State} {m : MethodId} {below : List Frame} {meth : Method} {c : Code} {A : Nat → Prop}  {E : zG} {y0 k0 k1 k2 k3 k4 k5 k6 k7 k8 k9 k10 k11 k12 k13 k14 k15 : Nat} {n : Nat} (hn : n < 41) (hn1 : 1 ≤ n) (C : cx p s m #[.ref y0] meth c b_Mo_init 5 y_Mo_init.cls none) (hA : ∀ q, s.heap.size ≤ q → A q) (hK : kt E s) (hst : stt A s s.heap) :
    ∀ (f k : Nat) (g4 : Nat → Int64) (go : Nat → Int32) (_ : k + f = n) (_ : ∀ j, j < n → g4 j = lN (tw_F j) ∧ go j = nI (tw_K j)) (_ : ∀ j, n < j → j < 41 → go j = 0) (_ : g4 n = lN (tw_in n k).1 ∧ go n = nI (tw_in n k).2) (kk : ∀ (g4 : Nat → Int64) (go : Nat → Int32) (H : Heap) (locs : List Loc) (ls : Array Slot), (∀ j, j < n + 1 → g4 j = lN (tw_F j) ∧ go j = nI (tw_K j)) → (∀ j, n < j → j < 41 → go j = 0) → va_P E.1 vwCl [(y0, .inr (7, [.int 0, .int 0, .ref k0, .ref k1, .ref k2, .int 0, .ref k3, .int 0, .ref k4, .ref k5, .ref k6, .ref k7, .ref k8, .ref k9, .ref k10, .int 0, .ref k11, .int 0, .int 0, .ref k12, .ref k13, .int 3, .int 0, .ref k14, .ref k15, .int 0, .int 0, .int 0])), (k0, zI E 4 (fun _ => 0)), (k1, zI E 4 (fun _ => 0)), (k2, zI E 4 (fun _ => 0)), (k3, zI E 100 (fun _ => 0)), (k4, zI E 10000 (fun _ => 0)), (k5, zI E 10000 (fun _ => 0)), (k6, zI E 10000 (fun _ => 0)), (k7, zI E 10000 (fun _ => 0)), (k8, zI E 10000 (fun _ => 0)), (k9, zI E 10000 (fun _ => 0)), (k10, zZ E 10000 (fun _ => 0)), (k11, zI E 4 (fun _ => 0)), (k12, zI E 8 (fun _ => 0)), (k13, zI E 8 (fun _ => 0)), (k14, zL E 41 g4), (k15, zI E 41 go)] H → va_D A [(y0, .inr (7, [.int 0, .int 0, .ref k0, .ref k1, .ref k2, .int 0, .ref k3, .int 0, .ref k4, .ref k5, .ref k6, .ref k7, .ref k8, .ref k9, .ref k10, .int 0, .ref k11, .int 0, .int 0, .ref k12, .ref k13, .int 3, .int 0, .ref k14, .ref k15, .int 0, .int 0, .int 0])), (k0, zI E 4 (fun _ => 0)), (k1, zI E 4 (fun _ => 0)), (k2, zI E 4 (fun _ => 0)), (k3, zI E 100 (fun _ => 0)), (k4, zI E 10000 (fun _ => 0)), (k5, zI E 10000 (fun _ => 0)), (k6, zI E 10000 (fun _ => 0)), (k7, zI E 10000 (fun _ => 0)), (k8, zI E 10000 (fun _ => 0)), (k9, zI E 10000 (fun _ => 0)), (k10, zZ E 10000 (fun _ => 0)), (k11, zI E 4 (fun _ => 0)), (k12, zI E 8 (fun _ => 0)), (k13, zI E 8 (fun _ => 0)), (k14, zL E 41 g4), (k15, zI E 41 go)] → va_S A s.heap H locs → lv_has ls 5 [(0, .ref y0), (1, .int (nI n))] → W p l e (zR 1 20 16 70214) s m #[.ref y0] below meth c H locs 16 70214 (MQ below ((zQv E (S := Nat × Nat × Nat × Nat × Nat × Nat × Nat × Nat × Nat × Nat × Nat × Nat × Nat × Nat × Nat × Nat × (Nat → Int64) × (Nat → Int32)) (fun u => ∀ j, j < 41 → u.2.2.2.2.2.2.2.2.2.2.2.2.2.2.2.2.1 j = lN (tw_F j) ∧ u.2.2.2.2.2.2.2.2.2.2.2.2.2.2.2.2.2 j = nI (tw_K j)) (fun u => [(y0, .inr (7, [.int 0, .int 0, .ref u.1, .ref u.2.1, .ref u.2.2.1, .int 0, .ref u.2.2.2.1, .int 0, .ref u.2.2.2.2.1, .ref u.2.2.2.2.2.1, .ref u.2.2.2.2.2.2.1, .ref u.2.2.2.2.2.2.2.1, .ref u.2.2.2.2.2.2.2.2.1, .ref u.2.2.2.2.2.2.2.2.2.1, .ref u.2.2.2.2.2.2.2.2.2.2.1, .int 0, .ref u.2.2.2.2.2.2.2.2.2.2.2.1, .int 0, .int 0, .ref u.2.2.2.2.2.2.2.2.2.2.2.2.1, .ref u.2.2.2.2.2.2.2.2.2.2.2.2.2.1, .int 3, .int 0, .ref u.2.2.2.2.2.2.2.2.2.2.2.2.2.2.1, .ref u.2.2.2.2.2.2.2.2.2.2.2.2.2.2.2.1, .int 0, .int 0, .int 0])), (u.1, zI E 4 (fun _ => 0)), (u.2.1, zI E 4 (fun _ => 0)), (u.2.2.1, zI E 4 (fun _ => 0)), (u.2.2.2.1, zI E 100 (fun _ => 0)), (u.2.2.2.2.1, zI E 10000 (fun _ => 0)), (u.2.2.2.2.2.1, zI E 10000 (fun _ => 0)), (u.2.2.2.2.2.2.1, zI E 10000 (fun _ => 0)), (u.2.2.2.2.2.2.2.1, zI E 10000 (fun _ => 0)), (u.2.2.2.2.2.2.2.2.1, zI E 10000 (fun _ => 0)), (u.2.2.2.2.2.2.2.2.2.1, zI E 10000 (fun _ => 0)), (u.2.2.2.2.2.2.2.2.2.2.1, zZ E 10000 (fun _ => 0)), (u.2.2.2.2.2.2.2.2.2.2.2.1, zI E 4 (fun _ => 0)), (u.2.2.2.2.2.2.2.2.2.2.2.2.1, zI E 8 (fun _ => 0)), (u.2.2.2.2.2.2.2.2.2.2.2.2.2.1, zI E 8 (fun _ => 0)), (u.2.2.2.2.2.2.2.2.2.2.2.2.2.2.1, zL E 41 u.2.2.2.2.2.2.2.2.2.2.2.2.2.2.2.2.1), (u.2.2.2.2.2.2.2.2.2.2.2.2.2.2.2.1, zI E 41 u.2.2.2.2.2.2.2.2.2.2.2.2.2.2.2.2.2)])) A) #[.ref y0] s 16 70214 A) (F0 m 216 ls [])) (H : Heap) (locs : List Loc) (ls : Array Slot), va_P E.1 vwCl [(y0, .inr (7, [.int 0, .int 0, .ref k0, .ref k1, .ref k2, .int 0, .ref k3, .int 0, .ref k4, .ref k5, .ref k6, .ref k7, .ref k8, .ref k9, .ref k10, .int 0, .ref k11, .int 0, .int 0, .ref k12, .ref k13, .int 3, .int 0, .ref k14, .ref k15, .int 0, .int 0, .int 0])), (k0, zI E 4 (fun _ => 0)), (k1, zI E 4 (fun _ => 0)), (k2, zI E 4 (fun _ => 0)), (k3, zI E 100 (fun _ => 0)), (k4, zI E 10000 (fun _ => 0)), (k5, zI E 10000 (fun _ => 0)), (k6, zI E 10000 (fun _ => 0)), (k7, zI E 10000 (fun _ => 0)), (k8, zI E 10000 (fun _ => 0)), (k9, zI E 10000 (fun _ => 0)), (k10, zZ E 10000 (fun _ => 0)), (k11, zI E 4 (fun _ => 0)), (k12, zI E 8 (fun _ => 0)), (k13, zI E 8 (fun _ => 0)), (k14, zL E 41 g4), (k15, zI E 41 go)] H → va_D A [(y0, .inr (7, [.int 0, .int 0, .ref k0, .ref k1, .ref k2, .int 0, .ref k3, .int 0, .ref k4, .ref k5, .ref k6, .ref k7, .ref k8, .ref k9, .ref k10, .int 0, .ref k11, .int 0, .int 0, .ref k12, .ref k13, .int 3, .int 0, .ref k14, .ref k15, .int 0, .int 0, .int 0])), (k0, zI E 4 (fun _ => 0)), (k1, zI E 4 (fun _ => 0)), (k2, zI E 4 (fun _ => 0)), (k3, zI E 100 (fun _ => 0)), (k4, zI E 10000 (fun _ => 0)), (k5, zI E 10000 (fun _ => 0)), (k6, zI E 10000 (fun _ => 0)), (k7, zI E 10000 (fun _ => 0)), (k8, zI E 10000 (fun _ => 0)), (k9, zI E 10000 (fun _ => 0)), (k10, zZ E 10000 (fun _ => 0)), (k11, zI E 4 (fun _ => 0)), (k12, zI E 8 (fun _ => 0)), (k13, zI E 8 (fun _ => 0)), (k14, zL E 41 g4), (k15, zI E 41 go)] → va_S A s.heap H locs → lv_has ls 5 [(0, .ref y0), (1, .int (nI n)), (2, .int (nI k))] → W p l e (zR 1 20 16 70214) s m #[.ref y0] below meth c H locs 16 70214 (MQ below ((zQv E (S := Nat × Nat × Nat × Nat × Nat × Nat × Nat × Nat × Nat × Nat × Nat × Nat × Nat × Nat × Nat × Nat × (Nat → Int64) × (Nat → Int32)) (fun u => ∀ j, j < 41 → u.2.2.2.2.2.2.2.2.2.2.2.2.2.2.2.2.1 j = lN (tw_F j) ∧ u.2.2.2.2.2.2.2.2.2.2.2.2.2.2.2.2.2 j = nI (tw_K j)) (fun u => [(y0, .inr (7, [.int 0, .int 0, .ref u.1, .ref u.2.1, .ref u.2.2.1, .int 0, .ref u.2.2.2.1, .int 0, .ref u.2.2.2.2.1, .ref u.2.2.2.2.2.1, .ref u.2.2.2.2.2.2.1, .ref u.2.2.2.2.2.2.2.1, .ref u.2.2.2.2.2.2.2.2.1, .ref u.2.2.2.2.2.2.2.2.2.1, .ref u.2.2.2.2.2.2.2.2.2.2.1, .int 0, .ref u.2.2.2.2.2.2.2.2.2.2.2.1, .int 0, .int 0, .ref u.2.2.2.2.2.2.2.2.2.2.2.2.1, .ref u.2.2.2.2.2.2.2.2.2.2.2.2.2.1, .int 3, .int 0, .ref u.2.2.2.2.2.2.2.2.2.2.2.2.2.2.1, .ref u.2.2.2.2.2.2.2.2.2.2.2.2.2.2.2.1, .int 0, .int 0, .int 0])), (u.1, zI E 4 (fun _ => 0)), (u.2.1, zI E 4 (fun _ => 0)), (u.2.2.1, zI E 4 (fun _ => 0)), (u.2.2.2.1, zI E 100 (fun _ => 0)), (u.2.2.2.2.1, zI E 10000 (fun _ => 0)), (u.2.2.2.2.2.1, zI E 10000 (fun _ => 0)), (u.2.2.2.2.2.2.1, zI E 10000 (fun _ => 0)), (u.2.2.2.2.2.2.2.1, zI E 10000 (fun _ => 0)), (u.2.2.2.2.2.2.2.2.1, zI E 10000 (fun _ => 0)), (u.2.2.2.2.2.2.2.2.2.1, zI E 10000 (fun _ => 0)), (u.2.2.2.2.2.2.2.2.2.2.1, zZ E 10000 (fun _ => 0)), (u.2.2.2.2.2.2.2.2.2.2.2.1, zI E 4 (fun _ => 0)), (u.2.2.2.2.2.2.2.2.2.2.2.2.1, zI E 8 (fun _ => 0)), (u.2.2.2.2.2.2.2.2.2.2.2.2.2.1, zI E 8 (fun _ => 0)), (u.2.2.2.2.2.2.2.2.2.2.2.2.2.2.1, zL E 41 u.2.2.2.2.2.2.2.2.2.2.2.2.2.2.2.2.1), (u.2.2.2.2.2.2.2.2.2.2.2.2.2.2.2.1, zI E 41 u.2.2.2.2.2.2.2.2.2.2.2.2.2.2.2.2.2)])) A) #[.ref y0] s 16 70214 A) (F0 m 159 ls []) := by
  obtain ⟨hx, hb, hr, hml, hown, hts, hlk⟩ := id C
  intro f
  induction f with
  | zero =>
    intro k g4 go hk h1 h2 h3 kk H locs ls hP hD hS hl
    have hk : k = n := by omega
    subst hk
    refine lv_iload_n hx hb d_Mo_init_159 rfl (lv_at hl 2 rfl) ?_
    refine lv_iload_n hx hb d_Mo_init_160 rfl (lv_at hl 1 rfl) ?_
    refine lv_icmp_ge (tgt := 216) hx hb d_Mo_init_161 (by decide) (fun c_36 => ?_) (fun c_36 => ?_)
    · exact kk g4 go _ _ ls (lt_s h1 (by rw [h3.1, h3.2, tw_in_ok k hn hn1]; exact ⟨rfl, rfl⟩)) h2 hP hD hS (lv_sub hl [0, 1] rfl)
    · exact absurd (nI_le (Nat.le_refl _) (by omega)) c_36
  | succ f ih =>
    intro k g4 go hk h1 h2 h3 kk H locs ls hP hD hS hl
    have hkn : k < n := by omega
    have hc := tw_c_lt n hn k (by omega)
    have hm := tw_in_lt n hn k (by omega)
    refine lv_iload_n hx hb d_Mo_init_159 rfl (lv_at hl 2 rfl) ?_
    refine lv_iload_n hx hb d_Mo_init_160 rfl (lv_at hl 1 rfl) ?_
    refine lv_icmp_ge (tgt := 216) hx hb d_Mo_init_161 (by decide) (fun c_37 => ?_) (fun c_37 => ?_)
    · exact absurd c_37 (nI_ge hkn (by omega))
    · refine lv_ldc2 (v := 2) hx hb hown (hts _ wk_Mo_66) d_Mo_init_164 ?_
      refine lv_aload_n hx hb d_Mo_init_167 rfl (lv_at hl 0 rfl) ?_
      refine zz_get C hK hP fl_Mo_57 0 rfl rfl d_Mo_init_168 ?_
      refine lv_iload_n hx hb d_Mo_init_171 rfl (lv_at hl 2 rfl) ?_
      refine zz_laldN C hK hP 15 rfl (j := k) (by omega) (by omega) d_Mo_init_172 ?_
      refine lv_lmul hx hb d_Mo_init_173 ?_
      refine zz_eql (y := lN (2 * tw_F k)) (by rw [(h1 k hkn).1]; exact lN_mul 2 _) ?_
      refine lv_iload_n hx hb d_Mo_init_174 rfl (lv_at hl 1 rfl) ?_
      refine lv_iload_n hx hb d_Mo_init_175 rfl (lv_at hl 2 rfl) ?_
      refine lv_isub hx hb d_Mo_init_176 ?_
      refine zz_eqi (y := nI (n - k)) (pk_sub (by omega)) ?_
      refine zz_gol (wr := [(y0, .inr (7, [.int 0, .int 0, .ref k0, .ref k1, .ref k2, .int 0, .ref k3, .int 0, .ref k4, .ref k5, .ref k6, .ref k7, .ref k8, .ref k9, .ref k10, .int 0, .ref k11, .int 0, .int 0, .ref k12, .ref k13, .int 3, .int 0, .ref k14, .ref k15, .int 0, .int 0, .int 0])), (k0, zI E 4 (fun _ => 0)), (k1, zI E 4 (fun _ => 0)), (k2, zI E 4 (fun _ => 0)), (k3, zI E 100 (fun _ => 0)), (k4, zI E 10000 (fun _ => 0)), (k5, zI E 10000 (fun _ => 0)), (k6, zI E 10000 (fun _ => 0)), (k7, zI E 10000 (fun _ => 0)), (k8, zI E 10000 (fun _ => 0)), (k9, zI E 10000 (fun _ => 0)), (k10, zZ E 10000 (fun _ => 0)), (k11, zI E 4 (fun _ => 0)), (k12, zI E 8 (fun _ => 0)), (k13, zI E 8 (fun _ => 0)), (k14, zL E 41 g4), (k15, zI E 41 go)]) [] [0, 1, 2, 3, 4, 5, 6, 7, 8, 9, 10, 11, 12, 13, 14, 15, 16] rfl rfl (by decide) (by decide) hA hP hD hS (zz_runS (wc := []) (As := [.int (nI (n - k))]) (rest := [.long (lN (2 * tw_F k))]) C (c_Mo_three l E (n - k) (by omega)) ym_Mo_three wd_ml_Mo_68 wd_st_Mo_three [] (by decide) rfl hA hK hst hP hD hS rfl hl.1 rfl (Nat.le_of_ble_eq_true rfl) ⟨Nat.le_of_ble_eq_true rfl, Nat.le_of_ble_eq_true rfl⟩ ⟨Nat.le_of_ble_eq_true rfl, Nat.le_of_ble_eq_true rfl⟩ d_Mo_init_177) (fun r_38 u H locs hw hP hD hS => ?_)
      have hP : va_P E.1 vwCl [(y0, .inr (7, [.int 0, .int 0, .ref k0, .ref k1, .ref k2, .int 0, .ref k3, .int 0, .ref k4, .ref k5, .ref k6, .ref k7, .ref k8, .ref k9, .ref k10, .int 0, .ref k11, .int 0, .int 0, .ref k12, .ref k13, .int 3, .int 0, .ref k14, .ref k15, .int 0, .int 0, .int 0])), (k0, zI E 4 (fun _ => 0)), (k1, zI E 4 (fun _ => 0)), (k2, zI E 4 (fun _ => 0)), (k3, zI E 100 (fun _ => 0)), (k4, zI E 10000 (fun _ => 0)), (k5, zI E 10000 (fun _ => 0)), (k6, zI E 10000 (fun _ => 0)), (k7, zI E 10000 (fun _ => 0)), (k8, zI E 10000 (fun _ => 0)), (k9, zI E 10000 (fun _ => 0)), (k10, zZ E 10000 (fun _ => 0)), (k11, zI E 4 (fun _ => 0)), (k12, zI E 8 (fun _ => 0)), (k13, zI E 8 (fun _ => 0)), (k14, zL E 41 g4), (k15, zI E 41 go)] H := hP
      have hD : va_D A [(y0, .inr (7, [.int 0, .int 0, .ref k0, .ref k1, .ref k2, .int 0, .ref k3, .int 0, .ref k4, .ref k5, .ref k6, .ref k7, .ref k8, .ref k9, .ref k10, .int 0, .ref k11, .int 0, .int 0, .ref k12, .ref k13, .int 3, .int 0, .ref k14, .ref k15, .int 0, .int 0, .int 0])), (k0, zI E 4 (fun _ => 0)), (k1, zI E 4 (fun _ => 0)), (k2, zI E 4 (fun _ => 0)), (k3, zI E 100 (fun _ => 0)), (k4, zI E 10000 (fun _ => 0)), (k5, zI E 10000 (fun _ => 0)), (k6, zI E 10000 (fun _ => 0)), (k7, zI E 10000 (fun _ => 0)), (k8, zI E 10000 (fun _ => 0)), (k9, zI E 10000 (fun _ => 0)), (k10, zZ E 10000 (fun _ => 0)), (k11, zI E 4 (fun _ => 0)), (k12, zI E 8 (fun _ => 0)), (k13, zI E 8 (fun _ => 0)), (k14, zL E 41 g4), (k15, zI E 41 go)] := hD
      subst hw
      refine lv_ladd hx hb d_Mo_init_180 ?_
      refine zz_eql (y := lN (2 * tw_F k + (2 ^ (n - k) - 1))) (lN_add _ _) ?_
      refine lv_lstore_n (lv' := [(3, .long (lN (2 * tw_F k + (2 ^ (n - k) - 1)))), (0, .ref y0), (1, .int (nI n)), (2, .int (nI k))]) hx hb d_Mo_init_181 rfl hl (by decide) rfl (fun ls hl => ?_)
      refine lv_lload_n hx hb d_Mo_init_182 rfl (lv_at hl 0 rfl) ?_
      refine lv_aload_n hx hb d_Mo_init_183 rfl (lv_at hl 1 rfl) ?_
      refine zz_get C hK hP fl_Mo_57 0 rfl rfl d_Mo_init_184 ?_
      refine lv_iload_n hx hb d_Mo_init_187 rfl (lv_at hl 2 rfl) ?_
      refine zz_laldN C hK hP 15 rfl (j := n) (by omega) (by omega) d_Mo_init_188 ?_
      refine W.lcmp hx hb d_Mo_init_189 ?_
      refine lv_if_lt (tgt := 196) hx hb d_Mo_init_190 (by decide) (fun c_39 => ?_) (fun c_39 => ?_)
      · have hlt : 2 * tw_F k + (2 ^ (n - k) - 1) < (tw_in n k).1 := by
          have h9 := (lg_cmp_lt _ _).mp c_39
          rw [h3.1, pk_lLT (by omega) (by omega)] at h9
          exact h9
        refine lv_aload_n hx hb d_Mo_init_196 rfl (lv_at hl 1 rfl) ?_
        refine zz_get C hK hP fl_Mo_57 0 rfl rfl d_Mo_init_197 ?_
        refine lv_iload_n hx hb d_Mo_init_200 rfl (lv_at hl 2 rfl) ?_
        refine lv_lload_n hx hb d_Mo_init_201 rfl (lv_at hl 0 rfl) ?_
        refine zz_lastN C hK hP hD hS 15 rfl (j := n) (by omega) (by omega) d_Mo_init_202 (fun H locs hP hD hS => ?_)
        have hP : va_P E.1 vwCl [(y0, .inr (7, [.int 0, .int 0, .ref k0, .ref k1, .ref k2, .int 0, .ref k3, .int 0, .ref k4, .ref k5, .ref k6, .ref k7, .ref k8, .ref k9, .ref k10, .int 0, .ref k11, .int 0, .int 0, .ref k12, .ref k13, .int 3, .int 0, .ref k14, .ref k15, .int 0, .int 0, .int 0])), (k0, zI E 4 (fun _ => 0)), (k1, zI E 4 (fun _ => 0)), (k2, zI E 4 (fun _ => 0)), (k3, zI E 100 (fun _ => 0)), (k4, zI E 10000 (fun _ => 0)), (k5, zI E 10000 (fun _ => 0)), (k6, zI E 10000 (fun _ => 0)), (k7, zI E 10000 (fun _ => 0)), (k8, zI E 10000 (fun _ => 0)), (k9, zI E 10000 (fun _ => 0)), (k10, zZ E 10000 (fun _ => 0)), (k11, zI E 4 (fun _ => 0)), (k12, zI E 8 (fun _ => 0)), (k13, zI E 8 (fun _ => 0)), (k14, zL E 41 (vp_updL g4 n (lN (2 * tw_F k + (2 ^ (n - k) - 1))))), (k15, zI E 41 go)] H := hP
        have hD : va_D A [(y0, .inr (7, [.int 0, .int 0, .ref k0, .ref k1, .ref k2, .int 0, .ref k3, .int 0, .ref k4, .ref k5, .ref k6, .ref k7, .ref k8, .ref k9, .ref k10, .int 0, .ref k11, .int 0, .int 0, .ref k12, .ref k13, .int 3, .int 0, .ref k14, .ref k15, .int 0, .int 0, .int 0])), (k0, zI E 4 (fun _ => 0)), (k1, zI E 4 (fun _ => 0)), (k2, zI E 4 (fun _ => 0)), (k3, zI E 100 (fun _ => 0)), (k4, zI E 10000 (fun _ => 0)), (k5, zI E 10000 (fun _ => 0)), (k6, zI E 10000 (fun _ => 0)), (k7, zI E 10000 (fun _ => 0)), (k8, zI E 10000 (fun _ => 0)), (k9, zI E 10000 (fun _ => 0)), (k10, zZ E 10000 (fun _ => 0)), (k11, zI E 4 (fun _ => 0)), (k12, zI E 8 (fun _ => 0)), (k13, zI E 8 (fun _ => 0)), (k14, zL E 41 (vp_updL g4 n (lN (2 * tw_F k + (2 ^ (n - k) - 1))))), (k15, zI E 41 go)] := hD
        refine lv_aload_n hx hb d_Mo_init_203 rfl (lv_at hl 1 rfl) ?_
        refine zz_get C hK hP fl_Mo_61 0 rfl rfl d_Mo_init_204 ?_
        refine lv_iload_n hx hb d_Mo_init_207 rfl (lv_at hl 2 rfl) ?_
        refine lv_iload_n hx hb d_Mo_init_208 rfl (lv_at hl 3 rfl) ?_
        refine zz_iastN C hK hP hD hS 16 rfl (j := n) (by omega) (by omega) d_Mo_init_209 (fun H locs hP hD hS => ?_)
        have hP : va_P E.1 vwCl [(y0, .inr (7, [.int 0, .int 0, .ref k0, .ref k1, .ref k2, .int 0, .ref k3, .int 0, .ref k4, .ref k5, .ref k6, .ref k7, .ref k8, .ref k9, .ref k10, .int 0, .ref k11, .int 0, .int 0, .ref k12, .ref k13, .int 3, .int 0, .ref k14, .ref k15, .int 0, .int 0, .int 0])), (k0, zI E 4 (fun _ => 0)), (k1, zI E 4 (fun _ => 0)), (k2, zI E 4 (fun _ => 0)), (k3, zI E 100 (fun _ => 0)), (k4, zI E 10000 (fun _ => 0)), (k5, zI E 10000 (fun _ => 0)), (k6, zI E 10000 (fun _ => 0)), (k7, zI E 10000 (fun _ => 0)), (k8, zI E 10000 (fun _ => 0)), (k9, zI E 10000 (fun _ => 0)), (k10, zZ E 10000 (fun _ => 0)), (k11, zI E 4 (fun _ => 0)), (k12, zI E 8 (fun _ => 0)), (k13, zI E 8 (fun _ => 0)), (k14, zL E 41 (vp_updL g4 n (lN (2 * tw_F k + (2 ^ (n - k) - 1))))), (k15, zI E 41 (upd go n (nI k)))] H := hP
        have hD : va_D A [(y0, .inr (7, [.int 0, .int 0, .ref k0, .ref k1, .ref k2, .int 0, .ref k3, .int 0, .ref k4, .ref k5, .ref k6, .ref k7, .ref k8, .ref k9, .ref k10, .int 0, .ref k11, .int 0, .int 0, .ref k12, .ref k13, .int 3, .int 0, .ref k14, .ref k15, .int 0, .int 0, .int 0])), (k0, zI E 4 (fun _ => 0)), (k1, zI E 4 (fun _ => 0)), (k2, zI E 4 (fun _ => 0)), (k3, zI E 100 (fun _ => 0)), (k4, zI E 10000 (fun _ => 0)), (k5, zI E 10000 (fun _ => 0)), (k6, zI E 10000 (fun _ => 0)), (k7, zI E 10000 (fun _ => 0)), (k8, zI E 10000 (fun _ => 0)), (k9, zI E 10000 (fun _ => 0)), (k10, zZ E 10000 (fun _ => 0)), (k11, zI E 4 (fun _ => 0)), (k12, zI E 8 (fun _ => 0)), (k13, zI E 8 (fun _ => 0)), (k14, zL E 41 (vp_updL g4 n (lN (2 * tw_F k + (2 ^ (n - k) - 1))))), (k15, zI E 41 (upd go n (nI k)))] := hD
        refine lv_iinc (v := nI (k + 1)) (lv' := [(2, .int (nI (k + 1))), (3, .long (lN (2 * tw_F k + (2 ^ (n - k) - 1)))), (0, .ref y0), (1, .int (nI n))]) hx hb d_Mo_init_210 hl (k := 3) rfl (nI_1 _) (by decide) rfl (fun ls hl => ?_)
        refine lv_goto (tgt := 159) hx hb d_Mo_init_213 (by decide) ?_
        exact ih (k + 1) (vp_updL g4 n (lN (2 * tw_F k + (2 ^ (n - k) - 1)))) (upd go n (nI k)) (by omega) (fun j hj => by rw [pk_uLn (by omega), pk_un (by omega)]; exact h1 j hj) (fun j hj1 hj2 => by rw [pk_un (by omega)]; exact h2 j hj1 hj2) (by rw [tw_in, if_pos hlt, pk_uLs, pk_us]; exact ⟨rfl, rfl⟩) kk _ _ ls hP hD hS (lv_sub hl [2, 3, 0] rfl)
      · have hge : ¬ 2 * tw_F k + (2 ^ (n - k) - 1) < (tw_in n k).1 := fun z => c_39 ((lg_cmp_lt _ _).mpr (by rw [h3.1, pk_lLT (by omega) (by omega)]; exact z))
        refine lv_goto (tgt := 210) hx hb d_Mo_init_193 (by decide) ?_
        refine lv_iinc (v := nI (k + 1)) (lv' := [(2, .int (nI (k + 1))), (3, .long (lN (2 * tw_F k + (2 ^ (n - k) - 1)))), (0, .ref y0), (1, .int (nI n))]) hx hb d_Mo_init_210 hl (k := 3) rfl (nI_1 _) (by decide) rfl (fun ls hl => ?_)
        refine lv_goto (tgt := 159) hx hb d_Mo_init_213 (by decide) ?_
        exact ih (k + 1) g4 go (by omega) h1 h2 (by rw [tw_in, if_neg hge]; exact h3) kk _ _ ls hP hD hS (lv_sub hl [2, 3, 0] rfl)

set_option maxHeartbeats 4000000 in
set_option maxRecDepth 100000 in
theorem lp_Mo_init2 {p : Program} {l : Launch} {e : Env} {s : State} {m : MethodId} {below : List Frame} {meth : Method} {c : Code} {A : Nat → Prop}  {E : zG} {y0 k0 k1 k2 k3 k4 k5 k6 k7 k8 k9 k10 k11 k12 k13 k14 k15 : Nat} (C : cx p s m #[.ref y0] meth c b_Mo_init 5 y_Mo_init.cls none) (hA : ∀ q, s.heap.size ≤ q → A q) (hK : kt E s) (hst : stt A s s.heap) :
    ∀ (f n : Nat) (g4 : Nat → Int64) (go : Nat → Int32) (_ : n + f = 41) (_ : 1 ≤ n) (_ : ∀ j, j < n → g4 j = lN (tw_F j) ∧ go j = nI (tw_K j)) (_ : ∀ j, n ≤ j → j < 41 → go j = 0) (H : Heap) (locs : List Loc) (ls : Array Slot), va_P E.1 vwCl [(y0, .inr (7, [.int 0, .int 0, .ref k0, .ref k1, .ref k2, .int 0, .ref k3, .int 0, .ref k4, .ref k5, .ref k6, .ref k7, .ref k8, .ref k9, .ref k10, .int 0, .ref k11, .int 0, .int 0, .ref k12, .ref k13, .int 3, .int 0, .ref k14, .ref k15, .int 0, .int 0, .int 0])), (k0, zI E 4 (fun _ => 0)), (k1, zI E 4 (fun _ => 0)), (k2, zI E 4 (fun _ => 0)), (k3, zI E 100 (fun _ => 0)), (k4, zI E 10000 (fun _ => 0)), (k5, zI E 10000 (fun _ => 0)), (k6, zI E 10000 (fun _ => 0)), (k7, zI E 10000 (fun _ => 0)), (k8, zI E 10000 (fun _ => 0)), (k9, zI E 10000 (fun _ => 0)), (k10, zZ E 10000 (fun _ => 0)), (k11, zI E 4 (fun _ => 0)), (k12, zI E 8 (fun _ => 0)), (k13, zI E 8 (fun _ => 0)), (k14, zL E 41 g4), (k15, zI E 41 go)] H → va_D A [(y0, .inr (7, [.int 0, .int 0, .ref k0, .ref k1, .ref k2, .int 0, .ref k3, .int 0, .ref k4, .ref k5, .ref k6, .ref k7, .ref k8, .ref k9, .ref k10, .int 0, .ref k11, .int 0, .int 0, .ref k12, .ref k13, .int 3, .int 0, .ref k14, .ref k15, .int 0, .int 0, .int 0])), (k0, zI E 4 (fun _ => 0)), (k1, zI E 4 (fun _ => 0)), (k2, zI E 4 (fun _ => 0)), (k3, zI E 100 (fun _ => 0)), (k4, zI E 10000 (fun _ => 0)), (k5, zI E 10000 (fun _ => 0)), (k6, zI E 10000 (fun _ => 0)), (k7, zI E 10000 (fun _ => 0)), (k8, zI E 10000 (fun _ => 0)), (k9, zI E 10000 (fun _ => 0)), (k10, zZ E 10000 (fun _ => 0)), (k11, zI E 4 (fun _ => 0)), (k12, zI E 8 (fun _ => 0)), (k13, zI E 8 (fun _ => 0)), (k14, zL E 41 g4), (k15, zI E 41 go)] → va_S A s.heap H locs → lv_has ls 5 [(0, .ref y0), (1, .int (nI n))] → W p l e (zR 1 20 16 70214) s m #[.ref y0] below meth c H locs 16 70214 (MQ below ((zQv E (S := Nat × Nat × Nat × Nat × Nat × Nat × Nat × Nat × Nat × Nat × Nat × Nat × Nat × Nat × Nat × Nat × (Nat → Int64) × (Nat → Int32)) (fun u => ∀ j, j < 41 → u.2.2.2.2.2.2.2.2.2.2.2.2.2.2.2.2.1 j = lN (tw_F j) ∧ u.2.2.2.2.2.2.2.2.2.2.2.2.2.2.2.2.2 j = nI (tw_K j)) (fun u => [(y0, .inr (7, [.int 0, .int 0, .ref u.1, .ref u.2.1, .ref u.2.2.1, .int 0, .ref u.2.2.2.1, .int 0, .ref u.2.2.2.2.1, .ref u.2.2.2.2.2.1, .ref u.2.2.2.2.2.2.1, .ref u.2.2.2.2.2.2.2.1, .ref u.2.2.2.2.2.2.2.2.1, .ref u.2.2.2.2.2.2.2.2.2.1, .ref u.2.2.2.2.2.2.2.2.2.2.1, .int 0, .ref u.2.2.2.2.2.2.2.2.2.2.2.1, .int 0, .int 0, .ref u.2.2.2.2.2.2.2.2.2.2.2.2.1, .ref u.2.2.2.2.2.2.2.2.2.2.2.2.2.1, .int 3, .int 0, .ref u.2.2.2.2.2.2.2.2.2.2.2.2.2.2.1, .ref u.2.2.2.2.2.2.2.2.2.2.2.2.2.2.2.1, .int 0, .int 0, .int 0])), (u.1, zI E 4 (fun _ => 0)), (u.2.1, zI E 4 (fun _ => 0)), (u.2.2.1, zI E 4 (fun _ => 0)), (u.2.2.2.1, zI E 100 (fun _ => 0)), (u.2.2.2.2.1, zI E 10000 (fun _ => 0)), (u.2.2.2.2.2.1, zI E 10000 (fun _ => 0)), (u.2.2.2.2.2.2.1, zI E 10000 (fun _ => 0)), (u.2.2.2.2.2.2.2.1, zI E 10000 (fun _ => 0)), (u.2.2.2.2.2.2.2.2.1, zI E 10000 (fun _ => 0)), (u.2.2.2.2.2.2.2.2.2.1, zI E 10000 (fun _ => 0)), (u.2.2.2.2.2.2.2.2.2.2.1, zZ E 10000 (fun _ => 0)), (u.2.2.2.2.2.2.2.2.2.2.2.1, zI E 4 (fun _ => 0)), (u.2.2.2.2.2.2.2.2.2.2.2.2.1, zI E 8 (fun _ => 0)), (u.2.2.2.2.2.2.2.2.2.2.2.2.2.1, zI E 8 (fun _ => 0)), (u.2.2.2.2.2.2.2.2.2.2.2.2.2.2.1, zL E 41 u.2.2.2.2.2.2.2.2.2.2.2.2.2.2.2.2.1), (u.2.2.2.2.2.2.2.2.2.2.2.2.2.2.2.1, zI E 41 u.2.2.2.2.2.2.2.2.2.2.2.2.2.2.2.2.2)])) A) #[.ref y0] s 16 70214 A) (F0 m 142 ls []) := by
  obtain ⟨hx, hb, hr, hml, hown, hts, hlk⟩ := id C
  intro f
  induction f with
  | zero =>
    intro n g4 go hn hn1 h1 h2 H locs ls hP hD hS hl
    have hn : n = 41 := by omega
    subst hn
    refine lv_iload_n hx hb d_Mo_init_142 rfl (lv_at hl 1 rfl) ?_
    refine lv_bipush (v := 40) hx hb d_Mo_init_143 (by decide) ?_
    refine lv_icmp_gt (tgt := 222) hx hb d_Mo_init_145 (by decide) (fun c_40 => ?_) (fun c_40 => ?_)
    · exact zz_retv C hS (k0, k1, k2, k3, k4, k5, k6, k7, k8, k9, k10, k11, k12, k13, k14, k15, g4, go) (h1) hP hD d_Mo_init_222
    · exact absurd (by decide : (40 : Int32) < nI 41) c_40
  | succ f ih =>
    intro n g4 go hn hn1 h1 h2 H locs ls hP hD hS hl
    have hn4 : n < 41 := by omega
    refine lv_iload_n hx hb d_Mo_init_142 rfl (lv_at hl 1 rfl) ?_
    refine lv_bipush (v := 40) hx hb d_Mo_init_143 (by decide) ?_
    refine lv_icmp_gt (tgt := 222) hx hb d_Mo_init_145 (by decide) (fun c_41 => ?_) (fun c_41 => ?_)
    · exact absurd (nI_le (b := 40) (by omega) (by decide)) (zz_nle c_41)
    · refine lv_aload_n hx hb d_Mo_init_148 rfl (lv_at hl 0 rfl) ?_
      refine zz_get C hK hP fl_Mo_57 0 rfl rfl d_Mo_init_149 ?_
      refine lv_iload_n hx hb d_Mo_init_152 rfl (lv_at hl 1 rfl) ?_
      refine lv_ldc2 (v := 9223372036854775807) hx hb hown (hts _ wk_Mo_64) d_Mo_init_153 ?_
      refine zz_lastN C hK hP hD hS 15 rfl (j := n) (by omega) (by omega) d_Mo_init_156 (fun H locs hP hD hS => ?_)
      have hP : va_P E.1 vwCl [(y0, .inr (7, [.int 0, .int 0, .ref k0, .ref k1, .ref k2, .int 0, .ref k3, .int 0, .ref k4, .ref k5, .ref k6, .ref k7, .ref k8, .ref k9, .ref k10, .int 0, .ref k11, .int 0, .int 0, .ref k12, .ref k13, .int 3, .int 0, .ref k14, .ref k15, .int 0, .int 0, .int 0])), (k0, zI E 4 (fun _ => 0)), (k1, zI E 4 (fun _ => 0)), (k2, zI E 4 (fun _ => 0)), (k3, zI E 100 (fun _ => 0)), (k4, zI E 10000 (fun _ => 0)), (k5, zI E 10000 (fun _ => 0)), (k6, zI E 10000 (fun _ => 0)), (k7, zI E 10000 (fun _ => 0)), (k8, zI E 10000 (fun _ => 0)), (k9, zI E 10000 (fun _ => 0)), (k10, zZ E 10000 (fun _ => 0)), (k11, zI E 4 (fun _ => 0)), (k12, zI E 8 (fun _ => 0)), (k13, zI E 8 (fun _ => 0)), (k14, zL E 41 (vp_updL g4 n 9223372036854775807)), (k15, zI E 41 go)] H := hP
      have hD : va_D A [(y0, .inr (7, [.int 0, .int 0, .ref k0, .ref k1, .ref k2, .int 0, .ref k3, .int 0, .ref k4, .ref k5, .ref k6, .ref k7, .ref k8, .ref k9, .ref k10, .int 0, .ref k11, .int 0, .int 0, .ref k12, .ref k13, .int 3, .int 0, .ref k14, .ref k15, .int 0, .int 0, .int 0])), (k0, zI E 4 (fun _ => 0)), (k1, zI E 4 (fun _ => 0)), (k2, zI E 4 (fun _ => 0)), (k3, zI E 100 (fun _ => 0)), (k4, zI E 10000 (fun _ => 0)), (k5, zI E 10000 (fun _ => 0)), (k6, zI E 10000 (fun _ => 0)), (k7, zI E 10000 (fun _ => 0)), (k8, zI E 10000 (fun _ => 0)), (k9, zI E 10000 (fun _ => 0)), (k10, zZ E 10000 (fun _ => 0)), (k11, zI E 4 (fun _ => 0)), (k12, zI E 8 (fun _ => 0)), (k13, zI E 8 (fun _ => 0)), (k14, zL E 41 (vp_updL g4 n 9223372036854775807)), (k15, zI E 41 go)] := hD
      refine lv_iconst (v := 0) hx hb d_Mo_init_157 (by decide) ?_
      refine zz_eqi (y := nI 0) (rfl) ?_
      refine lv_istore_n (lv' := [(2, .int (nI 0)), (0, .ref y0), (1, .int (nI n))]) hx hb d_Mo_init_158 rfl hl (by decide) rfl (fun ls hl => ?_)
      have hl := lv_sub (l' := [(0, .ref y0), (1, .int (nI n)), (2, .int (nI 0))]) hl [1, 2, 0] (rfl)
      refine lp_Mo_init1 hn4 hn1 C hA hK hst n 0 _ go (by omega) (fun j hj => by rw [pk_uLn (by omega)]; exact h1 j hj) (fun j hj1 hj2 => h2 j (by omega) hj2) ⟨(pk_uLs).trans rfl, h2 n (Nat.le_refl _) hn4⟩ (fun g4 go H locs ls h1 h2 hP hD hS hl => ?_) _ _ ls hP hD hS hl
      refine lv_iinc (v := nI (n + 1)) (lv' := [(1, .int (nI (n + 1))), (0, .ref y0)]) hx hb d_Mo_init_216 hl (k := 1) rfl (nI_1 _) (by decide) rfl (fun ls hl => ?_)
      refine lv_goto (tgt := 142) hx hb d_Mo_init_219 (by decide) ?_
      exact ih (n + 1) g4 go (by omega) (by omega) h1 (fun j hj1 hj2 => h2 j (by omega) hj2) _ _ ls hP hD hS (lv_sub hl [1, 0] rfl)

set_option maxHeartbeats 4000000 in
set_option maxRecDepth 100000 in
theorem c_Mo_init (l : Launch) (E : zG) (y0 : Nat) : zMet l y_Mo_init b_Mo_init 5 none 1 20 16 70214 E [.ref y0] [(y0, .inr (7, [.int 0, .int 0, .null, .null, .null, .int 0, .null, .int 0, .null, .null, .null, .null, .null, .null, .null, .int 0, .null, .int 0, .int 0, .null, .null, .int 0, .int 0, .null, .null, .int 0, .int 0, .int 0]))] (zQv E (S := Nat × Nat × Nat × Nat × Nat × Nat × Nat × Nat × Nat × Nat × Nat × Nat × Nat × Nat × Nat × Nat × (Nat → Int64) × (Nat → Int32)) (fun u => ∀ j, j < 41 → u.2.2.2.2.2.2.2.2.2.2.2.2.2.2.2.2.1 j = lN (tw_F j) ∧ u.2.2.2.2.2.2.2.2.2.2.2.2.2.2.2.2.2 j = nI (tw_K j)) (fun u => [(y0, .inr (7, [.int 0, .int 0, .ref u.1, .ref u.2.1, .ref u.2.2.1, .int 0, .ref u.2.2.2.1, .int 0, .ref u.2.2.2.2.1, .ref u.2.2.2.2.2.1, .ref u.2.2.2.2.2.2.1, .ref u.2.2.2.2.2.2.2.1, .ref u.2.2.2.2.2.2.2.2.1, .ref u.2.2.2.2.2.2.2.2.2.1, .ref u.2.2.2.2.2.2.2.2.2.2.1, .int 0, .ref u.2.2.2.2.2.2.2.2.2.2.2.1, .int 0, .int 0, .ref u.2.2.2.2.2.2.2.2.2.2.2.2.1, .ref u.2.2.2.2.2.2.2.2.2.2.2.2.2.1, .int 3, .int 0, .ref u.2.2.2.2.2.2.2.2.2.2.2.2.2.2.1, .ref u.2.2.2.2.2.2.2.2.2.2.2.2.2.2.2.1, .int 0, .int 0, .int 0])), (u.1, zI E 4 (fun _ => 0)), (u.2.1, zI E 4 (fun _ => 0)), (u.2.2.1, zI E 4 (fun _ => 0)), (u.2.2.2.1, zI E 100 (fun _ => 0)), (u.2.2.2.2.1, zI E 10000 (fun _ => 0)), (u.2.2.2.2.2.1, zI E 10000 (fun _ => 0)), (u.2.2.2.2.2.2.1, zI E 10000 (fun _ => 0)), (u.2.2.2.2.2.2.2.1, zI E 10000 (fun _ => 0)), (u.2.2.2.2.2.2.2.2.1, zI E 10000 (fun _ => 0)), (u.2.2.2.2.2.2.2.2.2.1, zI E 10000 (fun _ => 0)), (u.2.2.2.2.2.2.2.2.2.2.1, zZ E 10000 (fun _ => 0)), (u.2.2.2.2.2.2.2.2.2.2.2.1, zI E 4 (fun _ => 0)), (u.2.2.2.2.2.2.2.2.2.2.2.2.1, zI E 8 (fun _ => 0)), (u.2.2.2.2.2.2.2.2.2.2.2.2.2.1, zI E 8 (fun _ => 0)), (u.2.2.2.2.2.2.2.2.2.2.2.2.2.2.1, zL E 41 u.2.2.2.2.2.2.2.2.2.2.2.2.2.2.2.2.1), (u.2.2.2.2.2.2.2.2.2.2.2.2.2.2.2.1, zI E 41 u.2.2.2.2.2.2.2.2.2.2.2.2.2.2.2.2.2)])) := by
  refine zz_met (by decide +kernel) (Nat.le_of_ble_eq_true rfl) ?_
  intro p e s m below meth c A ls C hin hA hK hst hP hD hl
  obtain ⟨hx, hb, hr, hml, hown, hts, hlk⟩ := id C
  have hS : va_S A s.heap s.heap [] := va_S.rf
  have hl : lv_has ls 5 [(0, .ref y0)] := hl
  refine lv_aload_n hx hb d_Mo_init_0 rfl (lv_at hl 0 rfl) ?_
  refine zz_oi C wd_ml_Mo_1 wd_im_obj wd_cd_obj hl.1 (Nat.le_of_ble_eq_true rfl) (Nat.le_of_ble_eq_true rfl) d_Mo_init_1 ?_
  refine lv_aload_n hx hb d_Mo_init_4 rfl (lv_at hl 0 rfl) ?_
  refine lv_iconst (v := 4) hx hb d_Mo_init_5 (by decide) ?_
  refine zz_eqi (show (4 : Int32) = nI 4 from rfl) ?_
  refine zz_newI C hK hP hD hS hA (by decide) wd_ac_I (Nat.le_of_ble_eq_true rfl) (Nat.le_of_ble_eq_true rfl) d_Mo_init_6 (fun q_42 H hP hD hS => ?_)
  have hP : va_P E.1 vwCl [(y0, .inr (7, [.int 0, .int 0, .null, .null, .null, .int 0, .null, .int 0, .null, .null, .null, .null, .null, .null, .null, .int 0, .null, .int 0, .int 0, .null, .null, .int 0, .int 0, .null, .null, .int 0, .int 0, .int 0])), (q_42, zI E 4 (fun _ => 0))] H := hP
  have hD : va_D A [(y0, .inr (7, [.int 0, .int 0, .null, .null, .null, .int 0, .null, .int 0, .null, .null, .null, .null, .null, .null, .null, .int 0, .null, .int 0, .int 0, .null, .null, .int 0, .int 0, .null, .null, .int 0, .int 0, .int 0])), (q_42, zI E 4 (fun _ => 0))] := hD
  refine zz_putF C hin hK hP hD hS fl_Mo_7 (fun q h => by cases h; rfl) 0 rfl rfl rfl (Nat.le_of_ble_eq_true rfl) d_Mo_init_8 (fun H locs hP hD hS => ?_)
  have hP : va_P E.1 vwCl [(y0, .inr (7, [.int 0, .int 0, .ref q_42, .null, .null, .int 0, .null, .int 0, .null, .null, .null, .null, .null, .null, .null, .int 0, .null, .int 0, .int 0, .null, .null, .int 0, .int 0, .null, .null, .int 0, .int 0, .int 0])), (q_42, zI E 4 (fun _ => 0))] H := hP
  have hD : va_D A [(y0, .inr (7, [.int 0, .int 0, .ref q_42, .null, .null, .int 0, .null, .int 0, .null, .null, .null, .null, .null, .null, .null, .int 0, .null, .int 0, .int 0, .null, .null, .int 0, .int 0, .null, .null, .int 0, .int 0, .int 0])), (q_42, zI E 4 (fun _ => 0))] := hD
  refine lv_aload_n hx hb d_Mo_init_11 rfl (lv_at hl 0 rfl) ?_
  refine lv_iconst (v := 4) hx hb d_Mo_init_12 (by decide) ?_
  refine zz_eqi (show (4 : Int32) = nI 4 from rfl) ?_
  refine zz_newI C hK hP hD hS hA (by decide) wd_ac_I (Nat.le_of_ble_eq_true rfl) (Nat.le_of_ble_eq_true rfl) d_Mo_init_13 (fun q_43 H hP hD hS => ?_)
  have hP : va_P E.1 vwCl [(y0, .inr (7, [.int 0, .int 0, .ref q_42, .null, .null, .int 0, .null, .int 0, .null, .null, .null, .null, .null, .null, .null, .int 0, .null, .int 0, .int 0, .null, .null, .int 0, .int 0, .null, .null, .int 0, .int 0, .int 0])), (q_42, zI E 4 (fun _ => 0)), (q_43, zI E 4 (fun _ => 0))] H := hP
  have hD : va_D A [(y0, .inr (7, [.int 0, .int 0, .ref q_42, .null, .null, .int 0, .null, .int 0, .null, .null, .null, .null, .null, .null, .null, .int 0, .null, .int 0, .int 0, .null, .null, .int 0, .int 0, .null, .null, .int 0, .int 0, .int 0])), (q_42, zI E 4 (fun _ => 0)), (q_43, zI E 4 (fun _ => 0))] := hD
  refine zz_putF C hin hK hP hD hS fl_Mo_13 (fun q h => by cases h; rfl) 0 rfl rfl rfl (Nat.le_of_ble_eq_true rfl) d_Mo_init_15 (fun H locs hP hD hS => ?_)
  have hP : va_P E.1 vwCl [(y0, .inr (7, [.int 0, .int 0, .ref q_42, .ref q_43, .null, .int 0, .null, .int 0, .null, .null, .null, .null, .null, .null, .null, .int 0, .null, .int 0, .int 0, .null, .null, .int 0, .int 0, .null, .null, .int 0, .int 0, .int 0])), (q_42, zI E 4 (fun _ => 0)), (q_43, zI E 4 (fun _ => 0))] H := hP
  have hD : va_D A [(y0, .inr (7, [.int 0, .int 0, .ref q_42, .ref q_43, .null, .int 0, .null, .int 0, .null, .null, .null, .null, .null, .null, .null, .int 0, .null, .int 0, .int 0, .null, .null, .int 0, .int 0, .null, .null, .int 0, .int 0, .int 0])), (q_42, zI E 4 (fun _ => 0)), (q_43, zI E 4 (fun _ => 0))] := hD
  refine lv_aload_n hx hb d_Mo_init_18 rfl (lv_at hl 0 rfl) ?_
  refine lv_iconst (v := 4) hx hb d_Mo_init_19 (by decide) ?_
  refine zz_eqi (show (4 : Int32) = nI 4 from rfl) ?_
  refine zz_newI C hK hP hD hS hA (by decide) wd_ac_I (Nat.le_of_ble_eq_true rfl) (Nat.le_of_ble_eq_true rfl) d_Mo_init_20 (fun q_44 H hP hD hS => ?_)
  have hP : va_P E.1 vwCl [(y0, .inr (7, [.int 0, .int 0, .ref q_42, .ref q_43, .null, .int 0, .null, .int 0, .null, .null, .null, .null, .null, .null, .null, .int 0, .null, .int 0, .int 0, .null, .null, .int 0, .int 0, .null, .null, .int 0, .int 0, .int 0])), (q_42, zI E 4 (fun _ => 0)), (q_43, zI E 4 (fun _ => 0)), (q_44, zI E 4 (fun _ => 0))] H := hP
  have hD : va_D A [(y0, .inr (7, [.int 0, .int 0, .ref q_42, .ref q_43, .null, .int 0, .null, .int 0, .null, .null, .null, .null, .null, .null, .null, .int 0, .null, .int 0, .int 0, .null, .null, .int 0, .int 0, .null, .null, .int 0, .int 0, .int 0])), (q_42, zI E 4 (fun _ => 0)), (q_43, zI E 4 (fun _ => 0)), (q_44, zI E 4 (fun _ => 0))] := hD
  refine zz_putF C hin hK hP hD hS fl_Mo_16 (fun q h => by cases h; rfl) 0 rfl rfl rfl (Nat.le_of_ble_eq_true rfl) d_Mo_init_22 (fun H locs hP hD hS => ?_)
  have hP : va_P E.1 vwCl [(y0, .inr (7, [.int 0, .int 0, .ref q_42, .ref q_43, .ref q_44, .int 0, .null, .int 0, .null, .null, .null, .null, .null, .null, .null, .int 0, .null, .int 0, .int 0, .null, .null, .int 0, .int 0, .null, .null, .int 0, .int 0, .int 0])), (q_42, zI E 4 (fun _ => 0)), (q_43, zI E 4 (fun _ => 0)), (q_44, zI E 4 (fun _ => 0))] H := hP
  have hD : va_D A [(y0, .inr (7, [.int 0, .int 0, .ref q_42, .ref q_43, .ref q_44, .int 0, .null, .int 0, .null, .null, .null, .null, .null, .null, .null, .int 0, .null, .int 0, .int 0, .null, .null, .int 0, .int 0, .null, .null, .int 0, .int 0, .int 0])), (q_42, zI E 4 (fun _ => 0)), (q_43, zI E 4 (fun _ => 0)), (q_44, zI E 4 (fun _ => 0))] := hD
  refine lv_aload_n hx hb d_Mo_init_25 rfl (lv_at hl 0 rfl) ?_
  refine lv_bipush (v := 100) hx hb d_Mo_init_26 (by decide) ?_
  refine zz_eqi (show (100 : Int32) = nI 100 from rfl) ?_
  refine zz_newI C hK hP hD hS hA (by decide) wd_ac_I (Nat.le_of_ble_eq_true rfl) (Nat.le_of_ble_eq_true rfl) d_Mo_init_28 (fun q_45 H hP hD hS => ?_)
  have hP : va_P E.1 vwCl [(y0, .inr (7, [.int 0, .int 0, .ref q_42, .ref q_43, .ref q_44, .int 0, .null, .int 0, .null, .null, .null, .null, .null, .null, .null, .int 0, .null, .int 0, .int 0, .null, .null, .int 0, .int 0, .null, .null, .int 0, .int 0, .int 0])), (q_42, zI E 4 (fun _ => 0)), (q_43, zI E 4 (fun _ => 0)), (q_44, zI E 4 (fun _ => 0)), (q_45, zI E 100 (fun _ => 0))] H := hP
  have hD : va_D A [(y0, .inr (7, [.int 0, .int 0, .ref q_42, .ref q_43, .ref q_44, .int 0, .null, .int 0, .null, .null, .null, .null, .null, .null, .null, .int 0, .null, .int 0, .int 0, .null, .null, .int 0, .int 0, .null, .null, .int 0, .int 0, .int 0])), (q_42, zI E 4 (fun _ => 0)), (q_43, zI E 4 (fun _ => 0)), (q_44, zI E 4 (fun _ => 0)), (q_45, zI E 100 (fun _ => 0))] := hD
  refine zz_putF C hin hK hP hD hS fl_Mo_19 (fun q h => by cases h; rfl) 0 rfl rfl rfl (Nat.le_of_ble_eq_true rfl) d_Mo_init_30 (fun H locs hP hD hS => ?_)
  have hP : va_P E.1 vwCl [(y0, .inr (7, [.int 0, .int 0, .ref q_42, .ref q_43, .ref q_44, .int 0, .ref q_45, .int 0, .null, .null, .null, .null, .null, .null, .null, .int 0, .null, .int 0, .int 0, .null, .null, .int 0, .int 0, .null, .null, .int 0, .int 0, .int 0])), (q_42, zI E 4 (fun _ => 0)), (q_43, zI E 4 (fun _ => 0)), (q_44, zI E 4 (fun _ => 0)), (q_45, zI E 100 (fun _ => 0))] H := hP
  have hD : va_D A [(y0, .inr (7, [.int 0, .int 0, .ref q_42, .ref q_43, .ref q_44, .int 0, .ref q_45, .int 0, .null, .null, .null, .null, .null, .null, .null, .int 0, .null, .int 0, .int 0, .null, .null, .int 0, .int 0, .null, .null, .int 0, .int 0, .int 0])), (q_42, zI E 4 (fun _ => 0)), (q_43, zI E 4 (fun _ => 0)), (q_44, zI E 4 (fun _ => 0)), (q_45, zI E 100 (fun _ => 0))] := hD
  refine lv_aload_n hx hb d_Mo_init_33 rfl (lv_at hl 0 rfl) ?_
  refine lv_sipush (v := 10000) hx hb d_Mo_init_34 (by decide) ?_
  refine zz_eqi (show (10000 : Int32) = nI 10000 from rfl) ?_
  refine zz_newI C hK hP hD hS hA (by decide) wd_ac_I (Nat.le_of_ble_eq_true rfl) (Nat.le_of_ble_eq_true rfl) d_Mo_init_37 (fun q_46 H hP hD hS => ?_)
  have hP : va_P E.1 vwCl [(y0, .inr (7, [.int 0, .int 0, .ref q_42, .ref q_43, .ref q_44, .int 0, .ref q_45, .int 0, .null, .null, .null, .null, .null, .null, .null, .int 0, .null, .int 0, .int 0, .null, .null, .int 0, .int 0, .null, .null, .int 0, .int 0, .int 0])), (q_42, zI E 4 (fun _ => 0)), (q_43, zI E 4 (fun _ => 0)), (q_44, zI E 4 (fun _ => 0)), (q_45, zI E 100 (fun _ => 0)), (q_46, zI E 10000 (fun _ => 0))] H := hP
  have hD : va_D A [(y0, .inr (7, [.int 0, .int 0, .ref q_42, .ref q_43, .ref q_44, .int 0, .ref q_45, .int 0, .null, .null, .null, .null, .null, .null, .null, .int 0, .null, .int 0, .int 0, .null, .null, .int 0, .int 0, .null, .null, .int 0, .int 0, .int 0])), (q_42, zI E 4 (fun _ => 0)), (q_43, zI E 4 (fun _ => 0)), (q_44, zI E 4 (fun _ => 0)), (q_45, zI E 100 (fun _ => 0)), (q_46, zI E 10000 (fun _ => 0))] := hD
  refine zz_putF C hin hK hP hD hS fl_Mo_22 (fun q h => by cases h; rfl) 0 rfl rfl rfl (Nat.le_of_ble_eq_true rfl) d_Mo_init_39 (fun H locs hP hD hS => ?_)
  have hP : va_P E.1 vwCl [(y0, .inr (7, [.int 0, .int 0, .ref q_42, .ref q_43, .ref q_44, .int 0, .ref q_45, .int 0, .ref q_46, .null, .null, .null, .null, .null, .null, .int 0, .null, .int 0, .int 0, .null, .null, .int 0, .int 0, .null, .null, .int 0, .int 0, .int 0])), (q_42, zI E 4 (fun _ => 0)), (q_43, zI E 4 (fun _ => 0)), (q_44, zI E 4 (fun _ => 0)), (q_45, zI E 100 (fun _ => 0)), (q_46, zI E 10000 (fun _ => 0))] H := hP
  have hD : va_D A [(y0, .inr (7, [.int 0, .int 0, .ref q_42, .ref q_43, .ref q_44, .int 0, .ref q_45, .int 0, .ref q_46, .null, .null, .null, .null, .null, .null, .int 0, .null, .int 0, .int 0, .null, .null, .int 0, .int 0, .null, .null, .int 0, .int 0, .int 0])), (q_42, zI E 4 (fun _ => 0)), (q_43, zI E 4 (fun _ => 0)), (q_44, zI E 4 (fun _ => 0)), (q_45, zI E 100 (fun _ => 0)), (q_46, zI E 10000 (fun _ => 0))] := hD
  refine lv_aload_n hx hb d_Mo_init_42 rfl (lv_at hl 0 rfl) ?_
  refine lv_sipush (v := 10000) hx hb d_Mo_init_43 (by decide) ?_
  refine zz_eqi (show (10000 : Int32) = nI 10000 from rfl) ?_
  refine zz_newI C hK hP hD hS hA (by decide) wd_ac_I (Nat.le_of_ble_eq_true rfl) (Nat.le_of_ble_eq_true rfl) d_Mo_init_46 (fun q_47 H hP hD hS => ?_)
  have hP : va_P E.1 vwCl [(y0, .inr (7, [.int 0, .int 0, .ref q_42, .ref q_43, .ref q_44, .int 0, .ref q_45, .int 0, .ref q_46, .null, .null, .null, .null, .null, .null, .int 0, .null, .int 0, .int 0, .null, .null, .int 0, .int 0, .null, .null, .int 0, .int 0, .int 0])), (q_42, zI E 4 (fun _ => 0)), (q_43, zI E 4 (fun _ => 0)), (q_44, zI E 4 (fun _ => 0)), (q_45, zI E 100 (fun _ => 0)), (q_46, zI E 10000 (fun _ => 0)), (q_47, zI E 10000 (fun _ => 0))] H := hP
  have hD : va_D A [(y0, .inr (7, [.int 0, .int 0, .ref q_42, .ref q_43, .ref q_44, .int 0, .ref q_45, .int 0, .ref q_46, .null, .null, .null, .null, .null, .null, .int 0, .null, .int 0, .int 0, .null, .null, .int 0, .int 0, .null, .null, .int 0, .int 0, .int 0])), (q_42, zI E 4 (fun _ => 0)), (q_43, zI E 4 (fun _ => 0)), (q_44, zI E 4 (fun _ => 0)), (q_45, zI E 100 (fun _ => 0)), (q_46, zI E 10000 (fun _ => 0)), (q_47, zI E 10000 (fun _ => 0))] := hD
  refine zz_putF C hin hK hP hD hS fl_Mo_25 (fun q h => by cases h; rfl) 0 rfl rfl rfl (Nat.le_of_ble_eq_true rfl) d_Mo_init_48 (fun H locs hP hD hS => ?_)
  have hP : va_P E.1 vwCl [(y0, .inr (7, [.int 0, .int 0, .ref q_42, .ref q_43, .ref q_44, .int 0, .ref q_45, .int 0, .ref q_46, .ref q_47, .null, .null, .null, .null, .null, .int 0, .null, .int 0, .int 0, .null, .null, .int 0, .int 0, .null, .null, .int 0, .int 0, .int 0])), (q_42, zI E 4 (fun _ => 0)), (q_43, zI E 4 (fun _ => 0)), (q_44, zI E 4 (fun _ => 0)), (q_45, zI E 100 (fun _ => 0)), (q_46, zI E 10000 (fun _ => 0)), (q_47, zI E 10000 (fun _ => 0))] H := hP
  have hD : va_D A [(y0, .inr (7, [.int 0, .int 0, .ref q_42, .ref q_43, .ref q_44, .int 0, .ref q_45, .int 0, .ref q_46, .ref q_47, .null, .null, .null, .null, .null, .int 0, .null, .int 0, .int 0, .null, .null, .int 0, .int 0, .null, .null, .int 0, .int 0, .int 0])), (q_42, zI E 4 (fun _ => 0)), (q_43, zI E 4 (fun _ => 0)), (q_44, zI E 4 (fun _ => 0)), (q_45, zI E 100 (fun _ => 0)), (q_46, zI E 10000 (fun _ => 0)), (q_47, zI E 10000 (fun _ => 0))] := hD
  refine lv_aload_n hx hb d_Mo_init_51 rfl (lv_at hl 0 rfl) ?_
  refine lv_sipush (v := 10000) hx hb d_Mo_init_52 (by decide) ?_
  refine zz_eqi (show (10000 : Int32) = nI 10000 from rfl) ?_
  refine zz_newI C hK hP hD hS hA (by decide) wd_ac_I (Nat.le_of_ble_eq_true rfl) (Nat.le_of_ble_eq_true rfl) d_Mo_init_55 (fun q_48 H hP hD hS => ?_)
  have hP : va_P E.1 vwCl [(y0, .inr (7, [.int 0, .int 0, .ref q_42, .ref q_43, .ref q_44, .int 0, .ref q_45, .int 0, .ref q_46, .ref q_47, .null, .null, .null, .null, .null, .int 0, .null, .int 0, .int 0, .null, .null, .int 0, .int 0, .null, .null, .int 0, .int 0, .int 0])), (q_42, zI E 4 (fun _ => 0)), (q_43, zI E 4 (fun _ => 0)), (q_44, zI E 4 (fun _ => 0)), (q_45, zI E 100 (fun _ => 0)), (q_46, zI E 10000 (fun _ => 0)), (q_47, zI E 10000 (fun _ => 0)), (q_48, zI E 10000 (fun _ => 0))] H := hP
  have hD : va_D A [(y0, .inr (7, [.int 0, .int 0, .ref q_42, .ref q_43, .ref q_44, .int 0, .ref q_45, .int 0, .ref q_46, .ref q_47, .null, .null, .null, .null, .null, .int 0, .null, .int 0, .int 0, .null, .null, .int 0, .int 0, .null, .null, .int 0, .int 0, .int 0])), (q_42, zI E 4 (fun _ => 0)), (q_43, zI E 4 (fun _ => 0)), (q_44, zI E 4 (fun _ => 0)), (q_45, zI E 100 (fun _ => 0)), (q_46, zI E 10000 (fun _ => 0)), (q_47, zI E 10000 (fun _ => 0)), (q_48, zI E 10000 (fun _ => 0))] := hD
  refine zz_putF C hin hK hP hD hS fl_Mo_28 (fun q h => by cases h; rfl) 0 rfl rfl rfl (Nat.le_of_ble_eq_true rfl) d_Mo_init_57 (fun H locs hP hD hS => ?_)
  have hP : va_P E.1 vwCl [(y0, .inr (7, [.int 0, .int 0, .ref q_42, .ref q_43, .ref q_44, .int 0, .ref q_45, .int 0, .ref q_46, .ref q_47, .ref q_48, .null, .null, .null, .null, .int 0, .null, .int 0, .int 0, .null, .null, .int 0, .int 0, .null, .null, .int 0, .int 0, .int 0])), (q_42, zI E 4 (fun _ => 0)), (q_43, zI E 4 (fun _ => 0)), (q_44, zI E 4 (fun _ => 0)), (q_45, zI E 100 (fun _ => 0)), (q_46, zI E 10000 (fun _ => 0)), (q_47, zI E 10000 (fun _ => 0)), (q_48, zI E 10000 (fun _ => 0))] H := hP
  have hD : va_D A [(y0, .inr (7, [.int 0, .int 0, .ref q_42, .ref q_43, .ref q_44, .int 0, .ref q_45, .int 0, .ref q_46, .ref q_47, .ref q_48, .null, .null, .null, .null, .int 0, .null, .int 0, .int 0, .null, .null, .int 0, .int 0, .null, .null, .int 0, .int 0, .int 0])), (q_42, zI E 4 (fun _ => 0)), (q_43, zI E 4 (fun _ => 0)), (q_44, zI E 4 (fun _ => 0)), (q_45, zI E 100 (fun _ => 0)), (q_46, zI E 10000 (fun _ => 0)), (q_47, zI E 10000 (fun _ => 0)), (q_48, zI E 10000 (fun _ => 0))] := hD
  refine lv_aload_n hx hb d_Mo_init_60 rfl (lv_at hl 0 rfl) ?_
  refine lv_sipush (v := 10000) hx hb d_Mo_init_61 (by decide) ?_
  refine zz_eqi (show (10000 : Int32) = nI 10000 from rfl) ?_
  refine zz_newI C hK hP hD hS hA (by decide) wd_ac_I (Nat.le_of_ble_eq_true rfl) (Nat.le_of_ble_eq_true rfl) d_Mo_init_64 (fun q_49 H hP hD hS => ?_)
  have hP : va_P E.1 vwCl [(y0, .inr (7, [.int 0, .int 0, .ref q_42, .ref q_43, .ref q_44, .int 0, .ref q_45, .int 0, .ref q_46, .ref q_47, .ref q_48, .null, .null, .null, .null, .int 0, .null, .int 0, .int 0, .null, .null, .int 0, .int 0, .null, .null, .int 0, .int 0, .int 0])), (q_42, zI E 4 (fun _ => 0)), (q_43, zI E 4 (fun _ => 0)), (q_44, zI E 4 (fun _ => 0)), (q_45, zI E 100 (fun _ => 0)), (q_46, zI E 10000 (fun _ => 0)), (q_47, zI E 10000 (fun _ => 0)), (q_48, zI E 10000 (fun _ => 0)), (q_49, zI E 10000 (fun _ => 0))] H := hP
  have hD : va_D A [(y0, .inr (7, [.int 0, .int 0, .ref q_42, .ref q_43, .ref q_44, .int 0, .ref q_45, .int 0, .ref q_46, .ref q_47, .ref q_48, .null, .null, .null, .null, .int 0, .null, .int 0, .int 0, .null, .null, .int 0, .int 0, .null, .null, .int 0, .int 0, .int 0])), (q_42, zI E 4 (fun _ => 0)), (q_43, zI E 4 (fun _ => 0)), (q_44, zI E 4 (fun _ => 0)), (q_45, zI E 100 (fun _ => 0)), (q_46, zI E 10000 (fun _ => 0)), (q_47, zI E 10000 (fun _ => 0)), (q_48, zI E 10000 (fun _ => 0)), (q_49, zI E 10000 (fun _ => 0))] := hD
  refine zz_putF C hin hK hP hD hS fl_Mo_31 (fun q h => by cases h; rfl) 0 rfl rfl rfl (Nat.le_of_ble_eq_true rfl) d_Mo_init_66 (fun H locs hP hD hS => ?_)
  have hP : va_P E.1 vwCl [(y0, .inr (7, [.int 0, .int 0, .ref q_42, .ref q_43, .ref q_44, .int 0, .ref q_45, .int 0, .ref q_46, .ref q_47, .ref q_48, .ref q_49, .null, .null, .null, .int 0, .null, .int 0, .int 0, .null, .null, .int 0, .int 0, .null, .null, .int 0, .int 0, .int 0])), (q_42, zI E 4 (fun _ => 0)), (q_43, zI E 4 (fun _ => 0)), (q_44, zI E 4 (fun _ => 0)), (q_45, zI E 100 (fun _ => 0)), (q_46, zI E 10000 (fun _ => 0)), (q_47, zI E 10000 (fun _ => 0)), (q_48, zI E 10000 (fun _ => 0)), (q_49, zI E 10000 (fun _ => 0))] H := hP
  have hD : va_D A [(y0, .inr (7, [.int 0, .int 0, .ref q_42, .ref q_43, .ref q_44, .int 0, .ref q_45, .int 0, .ref q_46, .ref q_47, .ref q_48, .ref q_49, .null, .null, .null, .int 0, .null, .int 0, .int 0, .null, .null, .int 0, .int 0, .null, .null, .int 0, .int 0, .int 0])), (q_42, zI E 4 (fun _ => 0)), (q_43, zI E 4 (fun _ => 0)), (q_44, zI E 4 (fun _ => 0)), (q_45, zI E 100 (fun _ => 0)), (q_46, zI E 10000 (fun _ => 0)), (q_47, zI E 10000 (fun _ => 0)), (q_48, zI E 10000 (fun _ => 0)), (q_49, zI E 10000 (fun _ => 0))] := hD
  refine lv_aload_n hx hb d_Mo_init_69 rfl (lv_at hl 0 rfl) ?_
  refine lv_sipush (v := 10000) hx hb d_Mo_init_70 (by decide) ?_
  refine zz_eqi (show (10000 : Int32) = nI 10000 from rfl) ?_
  refine zz_newI C hK hP hD hS hA (by decide) wd_ac_I (Nat.le_of_ble_eq_true rfl) (Nat.le_of_ble_eq_true rfl) d_Mo_init_73 (fun q_50 H hP hD hS => ?_)
  have hP : va_P E.1 vwCl [(y0, .inr (7, [.int 0, .int 0, .ref q_42, .ref q_43, .ref q_44, .int 0, .ref q_45, .int 0, .ref q_46, .ref q_47, .ref q_48, .ref q_49, .null, .null, .null, .int 0, .null, .int 0, .int 0, .null, .null, .int 0, .int 0, .null, .null, .int 0, .int 0, .int 0])), (q_42, zI E 4 (fun _ => 0)), (q_43, zI E 4 (fun _ => 0)), (q_44, zI E 4 (fun _ => 0)), (q_45, zI E 100 (fun _ => 0)), (q_46, zI E 10000 (fun _ => 0)), (q_47, zI E 10000 (fun _ => 0)), (q_48, zI E 10000 (fun _ => 0)), (q_49, zI E 10000 (fun _ => 0)), (q_50, zI E 10000 (fun _ => 0))] H := hP
  have hD : va_D A [(y0, .inr (7, [.int 0, .int 0, .ref q_42, .ref q_43, .ref q_44, .int 0, .ref q_45, .int 0, .ref q_46, .ref q_47, .ref q_48, .ref q_49, .null, .null, .null, .int 0, .null, .int 0, .int 0, .null, .null, .int 0, .int 0, .null, .null, .int 0, .int 0, .int 0])), (q_42, zI E 4 (fun _ => 0)), (q_43, zI E 4 (fun _ => 0)), (q_44, zI E 4 (fun _ => 0)), (q_45, zI E 100 (fun _ => 0)), (q_46, zI E 10000 (fun _ => 0)), (q_47, zI E 10000 (fun _ => 0)), (q_48, zI E 10000 (fun _ => 0)), (q_49, zI E 10000 (fun _ => 0)), (q_50, zI E 10000 (fun _ => 0))] := hD
  refine zz_putF C hin hK hP hD hS fl_Mo_34 (fun q h => by cases h; rfl) 0 rfl rfl rfl (Nat.le_of_ble_eq_true rfl) d_Mo_init_75 (fun H locs hP hD hS => ?_)
  have hP : va_P E.1 vwCl [(y0, .inr (7, [.int 0, .int 0, .ref q_42, .ref q_43, .ref q_44, .int 0, .ref q_45, .int 0, .ref q_46, .ref q_47, .ref q_48, .ref q_49, .ref q_50, .null, .null, .int 0, .null, .int 0, .int 0, .null, .null, .int 0, .int 0, .null, .null, .int 0, .int 0, .int 0])), (q_42, zI E 4 (fun _ => 0)), (q_43, zI E 4 (fun _ => 0)), (q_44, zI E 4 (fun _ => 0)), (q_45, zI E 100 (fun _ => 0)), (q_46, zI E 10000 (fun _ => 0)), (q_47, zI E 10000 (fun _ => 0)), (q_48, zI E 10000 (fun _ => 0)), (q_49, zI E 10000 (fun _ => 0)), (q_50, zI E 10000 (fun _ => 0))] H := hP
  have hD : va_D A [(y0, .inr (7, [.int 0, .int 0, .ref q_42, .ref q_43, .ref q_44, .int 0, .ref q_45, .int 0, .ref q_46, .ref q_47, .ref q_48, .ref q_49, .ref q_50, .null, .null, .int 0, .null, .int 0, .int 0, .null, .null, .int 0, .int 0, .null, .null, .int 0, .int 0, .int 0])), (q_42, zI E 4 (fun _ => 0)), (q_43, zI E 4 (fun _ => 0)), (q_44, zI E 4 (fun _ => 0)), (q_45, zI E 100 (fun _ => 0)), (q_46, zI E 10000 (fun _ => 0)), (q_47, zI E 10000 (fun _ => 0)), (q_48, zI E 10000 (fun _ => 0)), (q_49, zI E 10000 (fun _ => 0)), (q_50, zI E 10000 (fun _ => 0))] := hD
  refine lv_aload_n hx hb d_Mo_init_78 rfl (lv_at hl 0 rfl) ?_
  refine lv_sipush (v := 10000) hx hb d_Mo_init_79 (by decide) ?_
  refine zz_eqi (show (10000 : Int32) = nI 10000 from rfl) ?_
  refine zz_newI C hK hP hD hS hA (by decide) wd_ac_I (Nat.le_of_ble_eq_true rfl) (Nat.le_of_ble_eq_true rfl) d_Mo_init_82 (fun q_51 H hP hD hS => ?_)
  have hP : va_P E.1 vwCl [(y0, .inr (7, [.int 0, .int 0, .ref q_42, .ref q_43, .ref q_44, .int 0, .ref q_45, .int 0, .ref q_46, .ref q_47, .ref q_48, .ref q_49, .ref q_50, .null, .null, .int 0, .null, .int 0, .int 0, .null, .null, .int 0, .int 0, .null, .null, .int 0, .int 0, .int 0])), (q_42, zI E 4 (fun _ => 0)), (q_43, zI E 4 (fun _ => 0)), (q_44, zI E 4 (fun _ => 0)), (q_45, zI E 100 (fun _ => 0)), (q_46, zI E 10000 (fun _ => 0)), (q_47, zI E 10000 (fun _ => 0)), (q_48, zI E 10000 (fun _ => 0)), (q_49, zI E 10000 (fun _ => 0)), (q_50, zI E 10000 (fun _ => 0)), (q_51, zI E 10000 (fun _ => 0))] H := hP
  have hD : va_D A [(y0, .inr (7, [.int 0, .int 0, .ref q_42, .ref q_43, .ref q_44, .int 0, .ref q_45, .int 0, .ref q_46, .ref q_47, .ref q_48, .ref q_49, .ref q_50, .null, .null, .int 0, .null, .int 0, .int 0, .null, .null, .int 0, .int 0, .null, .null, .int 0, .int 0, .int 0])), (q_42, zI E 4 (fun _ => 0)), (q_43, zI E 4 (fun _ => 0)), (q_44, zI E 4 (fun _ => 0)), (q_45, zI E 100 (fun _ => 0)), (q_46, zI E 10000 (fun _ => 0)), (q_47, zI E 10000 (fun _ => 0)), (q_48, zI E 10000 (fun _ => 0)), (q_49, zI E 10000 (fun _ => 0)), (q_50, zI E 10000 (fun _ => 0)), (q_51, zI E 10000 (fun _ => 0))] := hD
  refine zz_putF C hin hK hP hD hS fl_Mo_37 (fun q h => by cases h; rfl) 0 rfl rfl rfl (Nat.le_of_ble_eq_true rfl) d_Mo_init_84 (fun H locs hP hD hS => ?_)
  have hP : va_P E.1 vwCl [(y0, .inr (7, [.int 0, .int 0, .ref q_42, .ref q_43, .ref q_44, .int 0, .ref q_45, .int 0, .ref q_46, .ref q_47, .ref q_48, .ref q_49, .ref q_50, .ref q_51, .null, .int 0, .null, .int 0, .int 0, .null, .null, .int 0, .int 0, .null, .null, .int 0, .int 0, .int 0])), (q_42, zI E 4 (fun _ => 0)), (q_43, zI E 4 (fun _ => 0)), (q_44, zI E 4 (fun _ => 0)), (q_45, zI E 100 (fun _ => 0)), (q_46, zI E 10000 (fun _ => 0)), (q_47, zI E 10000 (fun _ => 0)), (q_48, zI E 10000 (fun _ => 0)), (q_49, zI E 10000 (fun _ => 0)), (q_50, zI E 10000 (fun _ => 0)), (q_51, zI E 10000 (fun _ => 0))] H := hP
  have hD : va_D A [(y0, .inr (7, [.int 0, .int 0, .ref q_42, .ref q_43, .ref q_44, .int 0, .ref q_45, .int 0, .ref q_46, .ref q_47, .ref q_48, .ref q_49, .ref q_50, .ref q_51, .null, .int 0, .null, .int 0, .int 0, .null, .null, .int 0, .int 0, .null, .null, .int 0, .int 0, .int 0])), (q_42, zI E 4 (fun _ => 0)), (q_43, zI E 4 (fun _ => 0)), (q_44, zI E 4 (fun _ => 0)), (q_45, zI E 100 (fun _ => 0)), (q_46, zI E 10000 (fun _ => 0)), (q_47, zI E 10000 (fun _ => 0)), (q_48, zI E 10000 (fun _ => 0)), (q_49, zI E 10000 (fun _ => 0)), (q_50, zI E 10000 (fun _ => 0)), (q_51, zI E 10000 (fun _ => 0))] := hD
  refine lv_aload_n hx hb d_Mo_init_87 rfl (lv_at hl 0 rfl) ?_
  refine lv_sipush (v := 10000) hx hb d_Mo_init_88 (by decide) ?_
  refine zz_eqi (show (10000 : Int32) = nI 10000 from rfl) ?_
  refine zz_newZ C hK hP hD hS hA (by decide) wd_ac_Z (Nat.le_of_ble_eq_true rfl) (Nat.le_of_ble_eq_true rfl) d_Mo_init_91 (fun q_52 H hP hD hS => ?_)
  have hP : va_P E.1 vwCl [(y0, .inr (7, [.int 0, .int 0, .ref q_42, .ref q_43, .ref q_44, .int 0, .ref q_45, .int 0, .ref q_46, .ref q_47, .ref q_48, .ref q_49, .ref q_50, .ref q_51, .null, .int 0, .null, .int 0, .int 0, .null, .null, .int 0, .int 0, .null, .null, .int 0, .int 0, .int 0])), (q_42, zI E 4 (fun _ => 0)), (q_43, zI E 4 (fun _ => 0)), (q_44, zI E 4 (fun _ => 0)), (q_45, zI E 100 (fun _ => 0)), (q_46, zI E 10000 (fun _ => 0)), (q_47, zI E 10000 (fun _ => 0)), (q_48, zI E 10000 (fun _ => 0)), (q_49, zI E 10000 (fun _ => 0)), (q_50, zI E 10000 (fun _ => 0)), (q_51, zI E 10000 (fun _ => 0)), (q_52, zZ E 10000 (fun _ => 0))] H := hP
  have hD : va_D A [(y0, .inr (7, [.int 0, .int 0, .ref q_42, .ref q_43, .ref q_44, .int 0, .ref q_45, .int 0, .ref q_46, .ref q_47, .ref q_48, .ref q_49, .ref q_50, .ref q_51, .null, .int 0, .null, .int 0, .int 0, .null, .null, .int 0, .int 0, .null, .null, .int 0, .int 0, .int 0])), (q_42, zI E 4 (fun _ => 0)), (q_43, zI E 4 (fun _ => 0)), (q_44, zI E 4 (fun _ => 0)), (q_45, zI E 100 (fun _ => 0)), (q_46, zI E 10000 (fun _ => 0)), (q_47, zI E 10000 (fun _ => 0)), (q_48, zI E 10000 (fun _ => 0)), (q_49, zI E 10000 (fun _ => 0)), (q_50, zI E 10000 (fun _ => 0)), (q_51, zI E 10000 (fun _ => 0)), (q_52, zZ E 10000 (fun _ => 0))] := hD
  refine zz_putF C hin hK hP hD hS fl_Mo_40 (fun q h => by cases h; rfl) 0 rfl rfl rfl (Nat.le_of_ble_eq_true rfl) d_Mo_init_93 (fun H locs hP hD hS => ?_)
  have hP : va_P E.1 vwCl [(y0, .inr (7, [.int 0, .int 0, .ref q_42, .ref q_43, .ref q_44, .int 0, .ref q_45, .int 0, .ref q_46, .ref q_47, .ref q_48, .ref q_49, .ref q_50, .ref q_51, .ref q_52, .int 0, .null, .int 0, .int 0, .null, .null, .int 0, .int 0, .null, .null, .int 0, .int 0, .int 0])), (q_42, zI E 4 (fun _ => 0)), (q_43, zI E 4 (fun _ => 0)), (q_44, zI E 4 (fun _ => 0)), (q_45, zI E 100 (fun _ => 0)), (q_46, zI E 10000 (fun _ => 0)), (q_47, zI E 10000 (fun _ => 0)), (q_48, zI E 10000 (fun _ => 0)), (q_49, zI E 10000 (fun _ => 0)), (q_50, zI E 10000 (fun _ => 0)), (q_51, zI E 10000 (fun _ => 0)), (q_52, zZ E 10000 (fun _ => 0))] H := hP
  have hD : va_D A [(y0, .inr (7, [.int 0, .int 0, .ref q_42, .ref q_43, .ref q_44, .int 0, .ref q_45, .int 0, .ref q_46, .ref q_47, .ref q_48, .ref q_49, .ref q_50, .ref q_51, .ref q_52, .int 0, .null, .int 0, .int 0, .null, .null, .int 0, .int 0, .null, .null, .int 0, .int 0, .int 0])), (q_42, zI E 4 (fun _ => 0)), (q_43, zI E 4 (fun _ => 0)), (q_44, zI E 4 (fun _ => 0)), (q_45, zI E 100 (fun _ => 0)), (q_46, zI E 10000 (fun _ => 0)), (q_47, zI E 10000 (fun _ => 0)), (q_48, zI E 10000 (fun _ => 0)), (q_49, zI E 10000 (fun _ => 0)), (q_50, zI E 10000 (fun _ => 0)), (q_51, zI E 10000 (fun _ => 0)), (q_52, zZ E 10000 (fun _ => 0))] := hD
  refine lv_aload_n hx hb d_Mo_init_96 rfl (lv_at hl 0 rfl) ?_
  refine lv_iconst (v := 4) hx hb d_Mo_init_97 (by decide) ?_
  refine zz_eqi (show (4 : Int32) = nI 4 from rfl) ?_
  refine zz_newI C hK hP hD hS hA (by decide) wd_ac_I (Nat.le_of_ble_eq_true rfl) (Nat.le_of_ble_eq_true rfl) d_Mo_init_98 (fun q_53 H hP hD hS => ?_)
  have hP : va_P E.1 vwCl [(y0, .inr (7, [.int 0, .int 0, .ref q_42, .ref q_43, .ref q_44, .int 0, .ref q_45, .int 0, .ref q_46, .ref q_47, .ref q_48, .ref q_49, .ref q_50, .ref q_51, .ref q_52, .int 0, .null, .int 0, .int 0, .null, .null, .int 0, .int 0, .null, .null, .int 0, .int 0, .int 0])), (q_42, zI E 4 (fun _ => 0)), (q_43, zI E 4 (fun _ => 0)), (q_44, zI E 4 (fun _ => 0)), (q_45, zI E 100 (fun _ => 0)), (q_46, zI E 10000 (fun _ => 0)), (q_47, zI E 10000 (fun _ => 0)), (q_48, zI E 10000 (fun _ => 0)), (q_49, zI E 10000 (fun _ => 0)), (q_50, zI E 10000 (fun _ => 0)), (q_51, zI E 10000 (fun _ => 0)), (q_52, zZ E 10000 (fun _ => 0)), (q_53, zI E 4 (fun _ => 0))] H := hP
  have hD : va_D A [(y0, .inr (7, [.int 0, .int 0, .ref q_42, .ref q_43, .ref q_44, .int 0, .ref q_45, .int 0, .ref q_46, .ref q_47, .ref q_48, .ref q_49, .ref q_50, .ref q_51, .ref q_52, .int 0, .null, .int 0, .int 0, .null, .null, .int 0, .int 0, .null, .null, .int 0, .int 0, .int 0])), (q_42, zI E 4 (fun _ => 0)), (q_43, zI E 4 (fun _ => 0)), (q_44, zI E 4 (fun _ => 0)), (q_45, zI E 100 (fun _ => 0)), (q_46, zI E 10000 (fun _ => 0)), (q_47, zI E 10000 (fun _ => 0)), (q_48, zI E 10000 (fun _ => 0)), (q_49, zI E 10000 (fun _ => 0)), (q_50, zI E 10000 (fun _ => 0)), (q_51, zI E 10000 (fun _ => 0)), (q_52, zZ E 10000 (fun _ => 0)), (q_53, zI E 4 (fun _ => 0))] := hD
  refine zz_putF C hin hK hP hD hS fl_Mo_44 (fun q h => by cases h; rfl) 0 rfl rfl rfl (Nat.le_of_ble_eq_true rfl) d_Mo_init_100 (fun H locs hP hD hS => ?_)
  have hP : va_P E.1 vwCl [(y0, .inr (7, [.int 0, .int 0, .ref q_42, .ref q_43, .ref q_44, .int 0, .ref q_45, .int 0, .ref q_46, .ref q_47, .ref q_48, .ref q_49, .ref q_50, .ref q_51, .ref q_52, .int 0, .ref q_53, .int 0, .int 0, .null, .null, .int 0, .int 0, .null, .null, .int 0, .int 0, .int 0])), (q_42, zI E 4 (fun _ => 0)), (q_43, zI E 4 (fun _ => 0)), (q_44, zI E 4 (fun _ => 0)), (q_45, zI E 100 (fun _ => 0)), (q_46, zI E 10000 (fun _ => 0)), (q_47, zI E 10000 (fun _ => 0)), (q_48, zI E 10000 (fun _ => 0)), (q_49, zI E 10000 (fun _ => 0)), (q_50, zI E 10000 (fun _ => 0)), (q_51, zI E 10000 (fun _ => 0)), (q_52, zZ E 10000 (fun _ => 0)), (q_53, zI E 4 (fun _ => 0))] H := hP
  have hD : va_D A [(y0, .inr (7, [.int 0, .int 0, .ref q_42, .ref q_43, .ref q_44, .int 0, .ref q_45, .int 0, .ref q_46, .ref q_47, .ref q_48, .ref q_49, .ref q_50, .ref q_51, .ref q_52, .int 0, .ref q_53, .int 0, .int 0, .null, .null, .int 0, .int 0, .null, .null, .int 0, .int 0, .int 0])), (q_42, zI E 4 (fun _ => 0)), (q_43, zI E 4 (fun _ => 0)), (q_44, zI E 4 (fun _ => 0)), (q_45, zI E 100 (fun _ => 0)), (q_46, zI E 10000 (fun _ => 0)), (q_47, zI E 10000 (fun _ => 0)), (q_48, zI E 10000 (fun _ => 0)), (q_49, zI E 10000 (fun _ => 0)), (q_50, zI E 10000 (fun _ => 0)), (q_51, zI E 10000 (fun _ => 0)), (q_52, zZ E 10000 (fun _ => 0)), (q_53, zI E 4 (fun _ => 0))] := hD
  refine lv_aload_n hx hb d_Mo_init_103 rfl (lv_at hl 0 rfl) ?_
  refine lv_bipush (v := 8) hx hb d_Mo_init_104 (by decide) ?_
  refine zz_eqi (show (8 : Int32) = nI 8 from rfl) ?_
  refine zz_newI C hK hP hD hS hA (by decide) wd_ac_I (Nat.le_of_ble_eq_true rfl) (Nat.le_of_ble_eq_true rfl) d_Mo_init_106 (fun q_54 H hP hD hS => ?_)
  have hP : va_P E.1 vwCl [(y0, .inr (7, [.int 0, .int 0, .ref q_42, .ref q_43, .ref q_44, .int 0, .ref q_45, .int 0, .ref q_46, .ref q_47, .ref q_48, .ref q_49, .ref q_50, .ref q_51, .ref q_52, .int 0, .ref q_53, .int 0, .int 0, .null, .null, .int 0, .int 0, .null, .null, .int 0, .int 0, .int 0])), (q_42, zI E 4 (fun _ => 0)), (q_43, zI E 4 (fun _ => 0)), (q_44, zI E 4 (fun _ => 0)), (q_45, zI E 100 (fun _ => 0)), (q_46, zI E 10000 (fun _ => 0)), (q_47, zI E 10000 (fun _ => 0)), (q_48, zI E 10000 (fun _ => 0)), (q_49, zI E 10000 (fun _ => 0)), (q_50, zI E 10000 (fun _ => 0)), (q_51, zI E 10000 (fun _ => 0)), (q_52, zZ E 10000 (fun _ => 0)), (q_53, zI E 4 (fun _ => 0)), (q_54, zI E 8 (fun _ => 0))] H := hP
  have hD : va_D A [(y0, .inr (7, [.int 0, .int 0, .ref q_42, .ref q_43, .ref q_44, .int 0, .ref q_45, .int 0, .ref q_46, .ref q_47, .ref q_48, .ref q_49, .ref q_50, .ref q_51, .ref q_52, .int 0, .ref q_53, .int 0, .int 0, .null, .null, .int 0, .int 0, .null, .null, .int 0, .int 0, .int 0])), (q_42, zI E 4 (fun _ => 0)), (q_43, zI E 4 (fun _ => 0)), (q_44, zI E 4 (fun _ => 0)), (q_45, zI E 100 (fun _ => 0)), (q_46, zI E 10000 (fun _ => 0)), (q_47, zI E 10000 (fun _ => 0)), (q_48, zI E 10000 (fun _ => 0)), (q_49, zI E 10000 (fun _ => 0)), (q_50, zI E 10000 (fun _ => 0)), (q_51, zI E 10000 (fun _ => 0)), (q_52, zZ E 10000 (fun _ => 0)), (q_53, zI E 4 (fun _ => 0)), (q_54, zI E 8 (fun _ => 0))] := hD
  refine zz_putF C hin hK hP hD hS fl_Mo_47 (fun q h => by cases h; rfl) 0 rfl rfl rfl (Nat.le_of_ble_eq_true rfl) d_Mo_init_108 (fun H locs hP hD hS => ?_)
  have hP : va_P E.1 vwCl [(y0, .inr (7, [.int 0, .int 0, .ref q_42, .ref q_43, .ref q_44, .int 0, .ref q_45, .int 0, .ref q_46, .ref q_47, .ref q_48, .ref q_49, .ref q_50, .ref q_51, .ref q_52, .int 0, .ref q_53, .int 0, .int 0, .ref q_54, .null, .int 0, .int 0, .null, .null, .int 0, .int 0, .int 0])), (q_42, zI E 4 (fun _ => 0)), (q_43, zI E 4 (fun _ => 0)), (q_44, zI E 4 (fun _ => 0)), (q_45, zI E 100 (fun _ => 0)), (q_46, zI E 10000 (fun _ => 0)), (q_47, zI E 10000 (fun _ => 0)), (q_48, zI E 10000 (fun _ => 0)), (q_49, zI E 10000 (fun _ => 0)), (q_50, zI E 10000 (fun _ => 0)), (q_51, zI E 10000 (fun _ => 0)), (q_52, zZ E 10000 (fun _ => 0)), (q_53, zI E 4 (fun _ => 0)), (q_54, zI E 8 (fun _ => 0))] H := hP
  have hD : va_D A [(y0, .inr (7, [.int 0, .int 0, .ref q_42, .ref q_43, .ref q_44, .int 0, .ref q_45, .int 0, .ref q_46, .ref q_47, .ref q_48, .ref q_49, .ref q_50, .ref q_51, .ref q_52, .int 0, .ref q_53, .int 0, .int 0, .ref q_54, .null, .int 0, .int 0, .null, .null, .int 0, .int 0, .int 0])), (q_42, zI E 4 (fun _ => 0)), (q_43, zI E 4 (fun _ => 0)), (q_44, zI E 4 (fun _ => 0)), (q_45, zI E 100 (fun _ => 0)), (q_46, zI E 10000 (fun _ => 0)), (q_47, zI E 10000 (fun _ => 0)), (q_48, zI E 10000 (fun _ => 0)), (q_49, zI E 10000 (fun _ => 0)), (q_50, zI E 10000 (fun _ => 0)), (q_51, zI E 10000 (fun _ => 0)), (q_52, zZ E 10000 (fun _ => 0)), (q_53, zI E 4 (fun _ => 0)), (q_54, zI E 8 (fun _ => 0))] := hD
  refine lv_aload_n hx hb d_Mo_init_111 rfl (lv_at hl 0 rfl) ?_
  refine lv_bipush (v := 8) hx hb d_Mo_init_112 (by decide) ?_
  refine zz_eqi (show (8 : Int32) = nI 8 from rfl) ?_
  refine zz_newI C hK hP hD hS hA (by decide) wd_ac_I (Nat.le_of_ble_eq_true rfl) (Nat.le_of_ble_eq_true rfl) d_Mo_init_114 (fun q_55 H hP hD hS => ?_)
  have hP : va_P E.1 vwCl [(y0, .inr (7, [.int 0, .int 0, .ref q_42, .ref q_43, .ref q_44, .int 0, .ref q_45, .int 0, .ref q_46, .ref q_47, .ref q_48, .ref q_49, .ref q_50, .ref q_51, .ref q_52, .int 0, .ref q_53, .int 0, .int 0, .ref q_54, .null, .int 0, .int 0, .null, .null, .int 0, .int 0, .int 0])), (q_42, zI E 4 (fun _ => 0)), (q_43, zI E 4 (fun _ => 0)), (q_44, zI E 4 (fun _ => 0)), (q_45, zI E 100 (fun _ => 0)), (q_46, zI E 10000 (fun _ => 0)), (q_47, zI E 10000 (fun _ => 0)), (q_48, zI E 10000 (fun _ => 0)), (q_49, zI E 10000 (fun _ => 0)), (q_50, zI E 10000 (fun _ => 0)), (q_51, zI E 10000 (fun _ => 0)), (q_52, zZ E 10000 (fun _ => 0)), (q_53, zI E 4 (fun _ => 0)), (q_54, zI E 8 (fun _ => 0)), (q_55, zI E 8 (fun _ => 0))] H := hP
  have hD : va_D A [(y0, .inr (7, [.int 0, .int 0, .ref q_42, .ref q_43, .ref q_44, .int 0, .ref q_45, .int 0, .ref q_46, .ref q_47, .ref q_48, .ref q_49, .ref q_50, .ref q_51, .ref q_52, .int 0, .ref q_53, .int 0, .int 0, .ref q_54, .null, .int 0, .int 0, .null, .null, .int 0, .int 0, .int 0])), (q_42, zI E 4 (fun _ => 0)), (q_43, zI E 4 (fun _ => 0)), (q_44, zI E 4 (fun _ => 0)), (q_45, zI E 100 (fun _ => 0)), (q_46, zI E 10000 (fun _ => 0)), (q_47, zI E 10000 (fun _ => 0)), (q_48, zI E 10000 (fun _ => 0)), (q_49, zI E 10000 (fun _ => 0)), (q_50, zI E 10000 (fun _ => 0)), (q_51, zI E 10000 (fun _ => 0)), (q_52, zZ E 10000 (fun _ => 0)), (q_53, zI E 4 (fun _ => 0)), (q_54, zI E 8 (fun _ => 0)), (q_55, zI E 8 (fun _ => 0))] := hD
  refine zz_putF C hin hK hP hD hS fl_Mo_50 (fun q h => by cases h; rfl) 0 rfl rfl rfl (Nat.le_of_ble_eq_true rfl) d_Mo_init_116 (fun H locs hP hD hS => ?_)
  have hP : va_P E.1 vwCl [(y0, .inr (7, [.int 0, .int 0, .ref q_42, .ref q_43, .ref q_44, .int 0, .ref q_45, .int 0, .ref q_46, .ref q_47, .ref q_48, .ref q_49, .ref q_50, .ref q_51, .ref q_52, .int 0, .ref q_53, .int 0, .int 0, .ref q_54, .ref q_55, .int 0, .int 0, .null, .null, .int 0, .int 0, .int 0])), (q_42, zI E 4 (fun _ => 0)), (q_43, zI E 4 (fun _ => 0)), (q_44, zI E 4 (fun _ => 0)), (q_45, zI E 100 (fun _ => 0)), (q_46, zI E 10000 (fun _ => 0)), (q_47, zI E 10000 (fun _ => 0)), (q_48, zI E 10000 (fun _ => 0)), (q_49, zI E 10000 (fun _ => 0)), (q_50, zI E 10000 (fun _ => 0)), (q_51, zI E 10000 (fun _ => 0)), (q_52, zZ E 10000 (fun _ => 0)), (q_53, zI E 4 (fun _ => 0)), (q_54, zI E 8 (fun _ => 0)), (q_55, zI E 8 (fun _ => 0))] H := hP
  have hD : va_D A [(y0, .inr (7, [.int 0, .int 0, .ref q_42, .ref q_43, .ref q_44, .int 0, .ref q_45, .int 0, .ref q_46, .ref q_47, .ref q_48, .ref q_49, .ref q_50, .ref q_51, .ref q_52, .int 0, .ref q_53, .int 0, .int 0, .ref q_54, .ref q_55, .int 0, .int 0, .null, .null, .int 0, .int 0, .int 0])), (q_42, zI E 4 (fun _ => 0)), (q_43, zI E 4 (fun _ => 0)), (q_44, zI E 4 (fun _ => 0)), (q_45, zI E 100 (fun _ => 0)), (q_46, zI E 10000 (fun _ => 0)), (q_47, zI E 10000 (fun _ => 0)), (q_48, zI E 10000 (fun _ => 0)), (q_49, zI E 10000 (fun _ => 0)), (q_50, zI E 10000 (fun _ => 0)), (q_51, zI E 10000 (fun _ => 0)), (q_52, zZ E 10000 (fun _ => 0)), (q_53, zI E 4 (fun _ => 0)), (q_54, zI E 8 (fun _ => 0)), (q_55, zI E 8 (fun _ => 0))] := hD
  refine lv_aload_n hx hb d_Mo_init_119 rfl (lv_at hl 0 rfl) ?_
  refine lv_iconst (v := 3) hx hb d_Mo_init_120 (by decide) ?_
  refine zz_put C hK hP hD hS fl_Mo_53 0 rfl rfl rfl (Nat.le_of_ble_eq_true rfl) d_Mo_init_121 (fun H locs hP hD hS => ?_)
  have hP : va_P E.1 vwCl [(y0, .inr (7, [.int 0, .int 0, .ref q_42, .ref q_43, .ref q_44, .int 0, .ref q_45, .int 0, .ref q_46, .ref q_47, .ref q_48, .ref q_49, .ref q_50, .ref q_51, .ref q_52, .int 0, .ref q_53, .int 0, .int 0, .ref q_54, .ref q_55, .int 3, .int 0, .null, .null, .int 0, .int 0, .int 0])), (q_42, zI E 4 (fun _ => 0)), (q_43, zI E 4 (fun _ => 0)), (q_44, zI E 4 (fun _ => 0)), (q_45, zI E 100 (fun _ => 0)), (q_46, zI E 10000 (fun _ => 0)), (q_47, zI E 10000 (fun _ => 0)), (q_48, zI E 10000 (fun _ => 0)), (q_49, zI E 10000 (fun _ => 0)), (q_50, zI E 10000 (fun _ => 0)), (q_51, zI E 10000 (fun _ => 0)), (q_52, zZ E 10000 (fun _ => 0)), (q_53, zI E 4 (fun _ => 0)), (q_54, zI E 8 (fun _ => 0)), (q_55, zI E 8 (fun _ => 0))] H := hP
  have hD : va_D A [(y0, .inr (7, [.int 0, .int 0, .ref q_42, .ref q_43, .ref q_44, .int 0, .ref q_45, .int 0, .ref q_46, .ref q_47, .ref q_48, .ref q_49, .ref q_50, .ref q_51, .ref q_52, .int 0, .ref q_53, .int 0, .int 0, .ref q_54, .ref q_55, .int 3, .int 0, .null, .null, .int 0, .int 0, .int 0])), (q_42, zI E 4 (fun _ => 0)), (q_43, zI E 4 (fun _ => 0)), (q_44, zI E 4 (fun _ => 0)), (q_45, zI E 100 (fun _ => 0)), (q_46, zI E 10000 (fun _ => 0)), (q_47, zI E 10000 (fun _ => 0)), (q_48, zI E 10000 (fun _ => 0)), (q_49, zI E 10000 (fun _ => 0)), (q_50, zI E 10000 (fun _ => 0)), (q_51, zI E 10000 (fun _ => 0)), (q_52, zZ E 10000 (fun _ => 0)), (q_53, zI E 4 (fun _ => 0)), (q_54, zI E 8 (fun _ => 0)), (q_55, zI E 8 (fun _ => 0))] := hD
  refine lv_aload_n hx hb d_Mo_init_124 rfl (lv_at hl 0 rfl) ?_
  refine lv_bipush (v := 41) hx hb d_Mo_init_125 (by decide) ?_
  refine zz_eqi (show (41 : Int32) = nI 41 from rfl) ?_
  refine zz_newL C hK hP hD hS hA (by decide) wd_ac_L (Nat.le_of_ble_eq_true rfl) (Nat.le_of_ble_eq_true rfl) d_Mo_init_127 (fun q_56 H hP hD hS => ?_)
  have hP : va_P E.1 vwCl [(y0, .inr (7, [.int 0, .int 0, .ref q_42, .ref q_43, .ref q_44, .int 0, .ref q_45, .int 0, .ref q_46, .ref q_47, .ref q_48, .ref q_49, .ref q_50, .ref q_51, .ref q_52, .int 0, .ref q_53, .int 0, .int 0, .ref q_54, .ref q_55, .int 3, .int 0, .null, .null, .int 0, .int 0, .int 0])), (q_42, zI E 4 (fun _ => 0)), (q_43, zI E 4 (fun _ => 0)), (q_44, zI E 4 (fun _ => 0)), (q_45, zI E 100 (fun _ => 0)), (q_46, zI E 10000 (fun _ => 0)), (q_47, zI E 10000 (fun _ => 0)), (q_48, zI E 10000 (fun _ => 0)), (q_49, zI E 10000 (fun _ => 0)), (q_50, zI E 10000 (fun _ => 0)), (q_51, zI E 10000 (fun _ => 0)), (q_52, zZ E 10000 (fun _ => 0)), (q_53, zI E 4 (fun _ => 0)), (q_54, zI E 8 (fun _ => 0)), (q_55, zI E 8 (fun _ => 0)), (q_56, zL E 41 (fun _ => 0))] H := hP
  have hD : va_D A [(y0, .inr (7, [.int 0, .int 0, .ref q_42, .ref q_43, .ref q_44, .int 0, .ref q_45, .int 0, .ref q_46, .ref q_47, .ref q_48, .ref q_49, .ref q_50, .ref q_51, .ref q_52, .int 0, .ref q_53, .int 0, .int 0, .ref q_54, .ref q_55, .int 3, .int 0, .null, .null, .int 0, .int 0, .int 0])), (q_42, zI E 4 (fun _ => 0)), (q_43, zI E 4 (fun _ => 0)), (q_44, zI E 4 (fun _ => 0)), (q_45, zI E 100 (fun _ => 0)), (q_46, zI E 10000 (fun _ => 0)), (q_47, zI E 10000 (fun _ => 0)), (q_48, zI E 10000 (fun _ => 0)), (q_49, zI E 10000 (fun _ => 0)), (q_50, zI E 10000 (fun _ => 0)), (q_51, zI E 10000 (fun _ => 0)), (q_52, zZ E 10000 (fun _ => 0)), (q_53, zI E 4 (fun _ => 0)), (q_54, zI E 8 (fun _ => 0)), (q_55, zI E 8 (fun _ => 0)), (q_56, zL E 41 (fun _ => 0))] := hD
  refine zz_putF C hin hK hP hD hS fl_Mo_57 (fun q h => by cases h; rfl) 0 rfl rfl rfl (Nat.le_of_ble_eq_true rfl) d_Mo_init_129 (fun H locs hP hD hS => ?_)
  have hP : va_P E.1 vwCl [(y0, .inr (7, [.int 0, .int 0, .ref q_42, .ref q_43, .ref q_44, .int 0, .ref q_45, .int 0, .ref q_46, .ref q_47, .ref q_48, .ref q_49, .ref q_50, .ref q_51, .ref q_52, .int 0, .ref q_53, .int 0, .int 0, .ref q_54, .ref q_55, .int 3, .int 0, .ref q_56, .null, .int 0, .int 0, .int 0])), (q_42, zI E 4 (fun _ => 0)), (q_43, zI E 4 (fun _ => 0)), (q_44, zI E 4 (fun _ => 0)), (q_45, zI E 100 (fun _ => 0)), (q_46, zI E 10000 (fun _ => 0)), (q_47, zI E 10000 (fun _ => 0)), (q_48, zI E 10000 (fun _ => 0)), (q_49, zI E 10000 (fun _ => 0)), (q_50, zI E 10000 (fun _ => 0)), (q_51, zI E 10000 (fun _ => 0)), (q_52, zZ E 10000 (fun _ => 0)), (q_53, zI E 4 (fun _ => 0)), (q_54, zI E 8 (fun _ => 0)), (q_55, zI E 8 (fun _ => 0)), (q_56, zL E 41 (fun _ => 0))] H := hP
  have hD : va_D A [(y0, .inr (7, [.int 0, .int 0, .ref q_42, .ref q_43, .ref q_44, .int 0, .ref q_45, .int 0, .ref q_46, .ref q_47, .ref q_48, .ref q_49, .ref q_50, .ref q_51, .ref q_52, .int 0, .ref q_53, .int 0, .int 0, .ref q_54, .ref q_55, .int 3, .int 0, .ref q_56, .null, .int 0, .int 0, .int 0])), (q_42, zI E 4 (fun _ => 0)), (q_43, zI E 4 (fun _ => 0)), (q_44, zI E 4 (fun _ => 0)), (q_45, zI E 100 (fun _ => 0)), (q_46, zI E 10000 (fun _ => 0)), (q_47, zI E 10000 (fun _ => 0)), (q_48, zI E 10000 (fun _ => 0)), (q_49, zI E 10000 (fun _ => 0)), (q_50, zI E 10000 (fun _ => 0)), (q_51, zI E 10000 (fun _ => 0)), (q_52, zZ E 10000 (fun _ => 0)), (q_53, zI E 4 (fun _ => 0)), (q_54, zI E 8 (fun _ => 0)), (q_55, zI E 8 (fun _ => 0)), (q_56, zL E 41 (fun _ => 0))] := hD
  refine lv_aload_n hx hb d_Mo_init_132 rfl (lv_at hl 0 rfl) ?_
  refine lv_bipush (v := 41) hx hb d_Mo_init_133 (by decide) ?_
  refine zz_eqi (show (41 : Int32) = nI 41 from rfl) ?_
  refine zz_newI C hK hP hD hS hA (by decide) wd_ac_I (Nat.le_of_ble_eq_true rfl) (Nat.le_of_ble_eq_true rfl) d_Mo_init_135 (fun q_57 H hP hD hS => ?_)
  have hP : va_P E.1 vwCl [(y0, .inr (7, [.int 0, .int 0, .ref q_42, .ref q_43, .ref q_44, .int 0, .ref q_45, .int 0, .ref q_46, .ref q_47, .ref q_48, .ref q_49, .ref q_50, .ref q_51, .ref q_52, .int 0, .ref q_53, .int 0, .int 0, .ref q_54, .ref q_55, .int 3, .int 0, .ref q_56, .null, .int 0, .int 0, .int 0])), (q_42, zI E 4 (fun _ => 0)), (q_43, zI E 4 (fun _ => 0)), (q_44, zI E 4 (fun _ => 0)), (q_45, zI E 100 (fun _ => 0)), (q_46, zI E 10000 (fun _ => 0)), (q_47, zI E 10000 (fun _ => 0)), (q_48, zI E 10000 (fun _ => 0)), (q_49, zI E 10000 (fun _ => 0)), (q_50, zI E 10000 (fun _ => 0)), (q_51, zI E 10000 (fun _ => 0)), (q_52, zZ E 10000 (fun _ => 0)), (q_53, zI E 4 (fun _ => 0)), (q_54, zI E 8 (fun _ => 0)), (q_55, zI E 8 (fun _ => 0)), (q_56, zL E 41 (fun _ => 0)), (q_57, zI E 41 (fun _ => 0))] H := hP
  have hD : va_D A [(y0, .inr (7, [.int 0, .int 0, .ref q_42, .ref q_43, .ref q_44, .int 0, .ref q_45, .int 0, .ref q_46, .ref q_47, .ref q_48, .ref q_49, .ref q_50, .ref q_51, .ref q_52, .int 0, .ref q_53, .int 0, .int 0, .ref q_54, .ref q_55, .int 3, .int 0, .ref q_56, .null, .int 0, .int 0, .int 0])), (q_42, zI E 4 (fun _ => 0)), (q_43, zI E 4 (fun _ => 0)), (q_44, zI E 4 (fun _ => 0)), (q_45, zI E 100 (fun _ => 0)), (q_46, zI E 10000 (fun _ => 0)), (q_47, zI E 10000 (fun _ => 0)), (q_48, zI E 10000 (fun _ => 0)), (q_49, zI E 10000 (fun _ => 0)), (q_50, zI E 10000 (fun _ => 0)), (q_51, zI E 10000 (fun _ => 0)), (q_52, zZ E 10000 (fun _ => 0)), (q_53, zI E 4 (fun _ => 0)), (q_54, zI E 8 (fun _ => 0)), (q_55, zI E 8 (fun _ => 0)), (q_56, zL E 41 (fun _ => 0)), (q_57, zI E 41 (fun _ => 0))] := hD
  refine zz_putF C hin hK hP hD hS fl_Mo_61 (fun q h => by cases h; rfl) 0 rfl rfl rfl (Nat.le_of_ble_eq_true rfl) d_Mo_init_137 (fun H locs hP hD hS => ?_)
  have hP : va_P E.1 vwCl [(y0, .inr (7, [.int 0, .int 0, .ref q_42, .ref q_43, .ref q_44, .int 0, .ref q_45, .int 0, .ref q_46, .ref q_47, .ref q_48, .ref q_49, .ref q_50, .ref q_51, .ref q_52, .int 0, .ref q_53, .int 0, .int 0, .ref q_54, .ref q_55, .int 3, .int 0, .ref q_56, .ref q_57, .int 0, .int 0, .int 0])), (q_42, zI E 4 (fun _ => 0)), (q_43, zI E 4 (fun _ => 0)), (q_44, zI E 4 (fun _ => 0)), (q_45, zI E 100 (fun _ => 0)), (q_46, zI E 10000 (fun _ => 0)), (q_47, zI E 10000 (fun _ => 0)), (q_48, zI E 10000 (fun _ => 0)), (q_49, zI E 10000 (fun _ => 0)), (q_50, zI E 10000 (fun _ => 0)), (q_51, zI E 10000 (fun _ => 0)), (q_52, zZ E 10000 (fun _ => 0)), (q_53, zI E 4 (fun _ => 0)), (q_54, zI E 8 (fun _ => 0)), (q_55, zI E 8 (fun _ => 0)), (q_56, zL E 41 (fun _ => 0)), (q_57, zI E 41 (fun _ => 0))] H := hP
  have hD : va_D A [(y0, .inr (7, [.int 0, .int 0, .ref q_42, .ref q_43, .ref q_44, .int 0, .ref q_45, .int 0, .ref q_46, .ref q_47, .ref q_48, .ref q_49, .ref q_50, .ref q_51, .ref q_52, .int 0, .ref q_53, .int 0, .int 0, .ref q_54, .ref q_55, .int 3, .int 0, .ref q_56, .ref q_57, .int 0, .int 0, .int 0])), (q_42, zI E 4 (fun _ => 0)), (q_43, zI E 4 (fun _ => 0)), (q_44, zI E 4 (fun _ => 0)), (q_45, zI E 100 (fun _ => 0)), (q_46, zI E 10000 (fun _ => 0)), (q_47, zI E 10000 (fun _ => 0)), (q_48, zI E 10000 (fun _ => 0)), (q_49, zI E 10000 (fun _ => 0)), (q_50, zI E 10000 (fun _ => 0)), (q_51, zI E 10000 (fun _ => 0)), (q_52, zZ E 10000 (fun _ => 0)), (q_53, zI E 4 (fun _ => 0)), (q_54, zI E 8 (fun _ => 0)), (q_55, zI E 8 (fun _ => 0)), (q_56, zL E 41 (fun _ => 0)), (q_57, zI E 41 (fun _ => 0))] := hD
  refine lv_iconst (v := 1) hx hb d_Mo_init_140 (by decide) ?_
  refine zz_eqi (y := nI 1) (rfl) ?_
  refine lv_istore_n (lv' := [(1, .int (nI 1)), (0, .ref y0)]) hx hb d_Mo_init_141 rfl hl (by decide) rfl (fun ls hl => ?_)
  refine W.widen (k := 16) (n := 70214) (by omega) (by omega) ?_
  exact lp_Mo_init2 C hA hK hst 40 1 (fun _ => 0) (fun _ => 0) (by omega) (by omega) (fun j hj => by rw [show j = 0 by omega]; exact ⟨rfl, rfl⟩) (fun j _ _ => rfl) _ _ ls hP hD hS (lv_sub hl [1, 0] rfl)
