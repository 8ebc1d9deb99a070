set_option maxHeartbeats 4000000 in
set_option maxRecDepth 100000 in
theorem lp_Se_endOf_J {p : Program} {l : Launch} {e : Env} {s : State} {m : MethodId} {below : List Frame} {meth : Method} {c : Code} {A : Nat → Prop}  {E : zG} {h0 b1 b2 b3 b4 jc : Nat} {fS fF fW : Nat → Int32} {sz fl : Nat → Nat} {g0 a1 a2 n : Nat} (hJ : jg_ok jc sz fl fS fF) (hn : n ≤ 10000) (hnc : 10 ^ jc ≤ n) (C : cx p s m #[.ref g0, .ref h0] meth c b_Se_endOf 5 y_Se_endOf.cls (some .int)) (hA : ∀ q, s.heap.size ≤ q → A q) (hK : kt E s) (hst : stt A s s.heap) :
    ∀ (f hd : Nat) (fV : Nat → Int32) (fT fQ : Nat → Int32) (S : (Nat → Nat) × List Nat) (_ : hd + f = 10000) (_ : bfs_run (jg_dn jc fW) (jg_next jc sz) f hd S = jg_RUN jc sz fl fW) (_ : bfs_RS n S fT fQ) (_ : bfs_J n (jg_good jc sz) S) (H : Heap) (locs : List Loc) (ls : Array Slot), va_P E.1 vwCl [(h0, .inr (1, [.ref b1, .ref b2, .ref b3, .ref b4, .int (nI jc)])), (b1, zI E 4 fS), (b2, zI E 4 fF), (b3, zI E 4 fW), (b4, zI E 4 fV), (g0, .inr (4, [.ref a1, .ref a2, .int (nI S.2.length)])), (a1, zI E n fT), (a2, zI E n fQ)] H → va_D A [(h0, .inr (1, [.ref b1, .ref b2, .ref b3, .ref b4, .int (nI jc)])), (b1, zI E 4 fS), (b2, zI E 4 fF), (b3, zI E 4 fW), (b4, zI E 4 fV), (g0, .inr (4, [.ref a1, .ref a2, .int (nI S.2.length)])), (a1, zI E n fT), (a2, zI E n fQ)] → va_S A s.heap H locs → lv_has ls 5 [(0, .ref g0), (1, .ref h0), (2, .int (nI (jg_sum fl jc))), (3, .int (nI hd))] → W p l e (zR 2 51 0 0) s m #[.ref g0, .ref h0] below meth c H locs 0 0 (MQ below ((zQi E (S := (Nat → Int32) × (Nat → Int32) × (Nat → Int32) × Nat × Nat) (fun r u => r = bfs_o (jg_RUN jc sz fl fW).1 ∧ bfs_RS n (jg_RUN jc sz fl fW).2 u.2.1 u.2.2.1 ∧ u.2.2.2.1 = a1 ∧ u.2.2.2.2 = a2) (fun u => [(h0, .inr (1, [.ref b1, .ref b2, .ref b3, .ref b4, .int (nI jc)])), (b1, zI E 4 fS), (b2, zI E 4 fF), (b3, zI E 4 fW), (b4, zI E 4 u.1), (g0, .inr (4, [.ref u.2.2.2.1, .ref u.2.2.2.2, .int (nI ((jg_RUN jc sz fl fW).2).2.length)])), (u.2.2.2.1, zI E n u.2.1), (u.2.2.2.2, zI E n u.2.2.1)])) A) #[.ref g0, .ref h0] s 0 0 A) (F0 m 35 ls []) := by
  obtain ⟨hx, hb, hr, hml, hown, hts, hlk⟩ := id C
  intro f
  induction f with
  | zero =>
    intro hd fV fT fQ S hi hgo hR hJS H locs ls hP hD hS hl
    have hi : hd = 10000 := by omega
    subst hi
    refine lv_iload_n hx hb d_Se_endOf_35 rfl (lv_at hl 3 rfl) ?_
    refine lv_sipush (v := 10000) hx hb d_Se_endOf_36 (by decide) ?_
    refine lv_icmp_ge (tgt := 94) hx hb d_Se_endOf_39 (by decide) (fun c_1 => ?_) (fun c_1 => ?_)
    · refine lv_iconst (v := (-1)) hx hb d_Se_endOf_94 (by decide) ?_
      have p1 : (-1 : Int32) = bfs_o (bfs_run (jg_dn jc fW) (jg_next jc sz) 0 10000 S).1 := rfl
      have p2 : S = (bfs_run (jg_dn jc fW) (jg_next jc sz) 0 10000 S).2 := rfl
      have eS : S = (jg_RUN jc sz fl fW).2 := by rw [← hgo]; exact p2
      have hP : va_P E.1 vwCl [(h0, .inr (1, [.ref b1, .ref b2, .ref b3, .ref b4, .int (nI jc)])), (b1, zI E 4 fS), (b2, zI E 4 fF), (b3, zI E 4 fW), (b4, zI E 4 fV), (g0, .inr (4, [.ref a1, .ref a2, .int (nI ((jg_RUN jc sz fl fW).2).2.length)])), (a1, zI E n fT), (a2, zI E n fQ)] H := by rw [← eS]; exact hP
      have hD : va_D A [(h0, .inr (1, [.ref b1, .ref b2, .ref b3, .ref b4, .int (nI jc)])), (b1, zI E 4 fS), (b2, zI E 4 fF), (b3, zI E 4 fW), (b4, zI E 4 fV), (g0, .inr (4, [.ref a1, .ref a2, .int (nI ((jg_RUN jc sz fl fW).2).2.length)])), (a1, zI E n fT), (a2, zI E n fQ)] := by rw [← eS]; exact hD
      exact zz_reti C (rfl) hS (fV, fT, fQ, a1, a2) (⟨by rw [← hgo]; exact p1, by rw [← eS]; exact hR, rfl, rfl⟩) hP hD d_Se_endOf_95
    · exact absurd (nI_le (b := 10000) (Nat.le_refl _) (by decide)) c_1
  | succ f ih =>
    intro hd fV fT fQ S hi hgo hR hJS H locs ls hP hD hS hl
    have hlen := bfs_le hJS.1
    refine lv_iload_n hx hb d_Se_endOf_35 rfl (lv_at hl 3 rfl) ?_
    refine lv_sipush (v := 10000) hx hb d_Se_endOf_36 (by decide) ?_
    refine lv_icmp_ge (tgt := 94) hx hb d_Se_endOf_39 (by decide) (fun c_2 => ?_) (fun c_2 => ?_)
    · exact absurd c_2 (nI_ge (b := 10000) (by omega) (by decide))
    · refine lv_iload_n hx hb d_Se_endOf_42 rfl (lv_at hl 3 rfl) ?_
      refine lv_aload_n hx hb d_Se_endOf_43 rfl (lv_at hl 0 rfl) ?_
      refine zz_get C hK hP fl_Se_34 5 rfl rfl d_Se_endOf_44 ?_
      refine lv_icmp_ge (tgt := 59) hx hb d_Se_endOf_47 (by decide) (fun c_3 => ?_) (fun c_3 => ?_)
      · have hge : ¬ hd < S.2.length := fun z => absurd c_3 (nI_ge z (by omega))
        have hrf : bfs_run (jg_dn jc fW) (jg_next jc sz) (f + 1) hd S = (none, S) := by rw [bfs_run, if_neg hge]
        have p1 : (-1 : Int32) = bfs_o (bfs_run (jg_dn jc fW) (jg_next jc sz) (f + 1) hd S).1 := by rw [hrf]; rfl
        have p2 : S = (bfs_run (jg_dn jc fW) (jg_next jc sz) (f + 1) hd S).2 := by rw [hrf]
        refine lv_iconst (v := (-1)) hx hb d_Se_endOf_59 (by decide) ?_
        have eS : S = (jg_RUN jc sz fl fW).2 := by rw [← hgo]; exact p2
        have hP : va_P E.1 vwCl [(h0, .inr (1, [.ref b1, .ref b2, .ref b3, .ref b4, .int (nI jc)])), (b1, zI E 4 fS), (b2, zI E 4 fF), (b3, zI E 4 fW), (b4, zI E 4 fV), (g0, .inr (4, [.ref a1, .ref a2, .int (nI ((jg_RUN jc sz fl fW).2).2.length)])), (a1, zI E n fT), (a2, zI E n fQ)] H := by rw [← eS]; exact hP
        have hD : va_D A [(h0, .inr (1, [.ref b1, .ref b2, .ref b3, .ref b4, .int (nI jc)])), (b1, zI E 4 fS), (b2, zI E 4 fF), (b3, zI E 4 fW), (b4, zI E 4 fV), (g0, .inr (4, [.ref a1, .ref a2, .int (nI ((jg_RUN jc sz fl fW).2).2.length)])), (a1, zI E n fT), (a2, zI E n fQ)] := by rw [← eS]; exact hD
        exact zz_reti C (rfl) hS (fV, fT, fQ, a1, a2) (⟨by rw [← hgo]; exact p1, by rw [← eS]; exact hR, rfl, rfl⟩) hP hD d_Se_endOf_60
      · have hlt : hd < S.2.length := zz_ltc c_3 (by omega)
        refine lv_iload_n hx hb d_Se_endOf_50 rfl (lv_at hl 3 rfl) ?_
        refine lv_aload_n hx hb d_Se_endOf_51 rfl (lv_at hl 0 rfl) ?_
        refine zz_get C hK hP fl_Se_15 5 rfl rfl d_Se_endOf_52 ?_
        refine zz_alenI C hK hP 7 rfl d_Se_endOf_55 ?_
        refine lv_icmp_lt (tgt := 61) hx hb d_Se_endOf_56 (by decide) (fun c_4 => ?_) (fun c_4 => ?_)
        · obtain ⟨x, hxe⟩ : ∃ x, x = S.2.getD hd 0 := ⟨_, rfl⟩
          have hxm : x ∈ S.2 := by rw [hxe]; exact bfs_getD hlt
          have hxP : (jg_good jc sz) x := hJS.2 x hxm
          have hxn := (hJS.1.1 x hxm).1
          have hxz := (hJS.1.1 x hxm).2
          refine lv_aload_n hx hb d_Se_endOf_61 rfl (lv_at hl 0 rfl) ?_
          refine zz_get C hK hP fl_Se_15 5 rfl rfl d_Se_endOf_62 ?_
          refine lv_iload_n hx hb d_Se_endOf_65 rfl (lv_at hl 3 rfl) ?_
          refine zz_ialdN C hK hP 7 rfl (j := hd) (Nat.lt_of_lt_of_le hlt hlen) (by omega) d_Se_endOf_66 ?_
          refine zz_eqi (y := nI x) (by rw [hxe]; exact hR.2 hd hlt) ?_
          refine lv_istore (lv' := [(4, .int (nI x)), (0, .ref g0), (1, .ref h0), (2, .int (nI (jg_sum fl jc))), (3, .int (nI hd))]) hx hb d_Se_endOf_67 hl (by decide) rfl (fun ls hl => ?_)
          refine lv_aload_n hx hb d_Se_endOf_69 rfl (lv_at hl 2 rfl) ?_
          refine lv_iload hx hb d_Se_endOf_70 (lv_at hl 0 rfl) ?_
          have hx4 : x < 10000 := Nat.lt_of_lt_of_le hxP.1 (jg_pow hJ.1)
          refine zz_goi (wr := [(g0, .inr (4, [.ref a1, .ref a2, .int (nI S.2.length)])), (a1, zI E n fT), (a2, zI E n fQ)]) [0, 1, 2, 3, 4] [5, 6, 7] rfl rfl (by decide) (by decide) hA hP hD hS (zz_runA (wc := [(h0, .inr (1, [.ref b1, .ref b2, .ref b3, .ref b4, .int (nI jc)])), (b1, zI E 4 fS), (b2, zI E 4 fF), (b3, zI E 4 fW), (b4, zI E 4 fV)]) (As := [.int (nI x)]) (rest := []) C (c_Js_isDone l E h0 b1 b2 b3 b4 jc fS fF fW fV x hJ.1 hx4) ym_Js_isDone wd_ml_Se_45 wd_sm_isDone wd_se_Js_isDone wd_im_Js_isDone wd_de_isDone (by decide +kernel) [0, 1, 2, 3, 4] (by decide) rfl hA hK hst hP hD hS (ci := 1) (q0 := 0) rfl rfl rfl rfl hl.1 rfl (Nat.le_of_ble_eq_true rfl) ⟨Nat.le_of_ble_eq_true rfl, Nat.le_of_ble_eq_true rfl⟩ ⟨Nat.le_of_ble_eq_true rfl, Nat.le_of_ble_eq_true rfl⟩ d_Se_endOf_72) (fun r1 u1 H locs hw1 hP hD hS => ?_)
          have hP : va_P E.1 vwCl [(g0, .inr (4, [.ref a1, .ref a2, .int (nI S.2.length)])), (a1, zI E n fT), (a2, zI E n fQ), (h0, .inr (1, [.ref b1, .ref b2, .ref b3, .ref b4, .int (nI jc)])), (b1, zI E 4 fS), (b2, zI E 4 fF), (b3, zI E 4 fW), (b4, zI E 4 u1)] H := hP
          have hD : va_D A [(g0, .inr (4, [.ref a1, .ref a2, .int (nI S.2.length)])), (a1, zI E n fT), (a2, zI E n fQ), (h0, .inr (1, [.ref b1, .ref b2, .ref b3, .ref b4, .int (nI jc)])), (b1, zI E 4 fS), (b2, zI E 4 fF), (b3, zI E 4 fW), (b4, zI E 4 u1)] := hD
          have hd1 : (jg_dn jc fW x = true → r1 = 1) ∧ (¬ jg_dn jc fW x = true → r1 = 0) := ⟨fun h => hw1.2.1 (of_decide_eq_true h), fun h => hw1.2.2 (fun z => h (decide_eq_true z))⟩
          have hP := hP.sub (ws' := [(h0, .inr (1, [.ref b1, .ref b2, .ref b3, .ref b4, .int (nI jc)])), (b1, zI E 4 fS), (b2, zI E 4 fF), (b3, zI E 4 fW), (b4, zI E 4 u1), (g0, .inr (4, [.ref a1, .ref a2, .int (nI S.2.length)])), (a1, zI E n fT), (a2, zI E n fQ)]) [3, 4, 5, 6, 7, 0, 1, 2] rfl
          have hD := hD.sub (ws' := [(h0, .inr (1, [.ref b1, .ref b2, .ref b3, .ref b4, .int (nI jc)])), (b1, zI E 4 fS), (b2, zI E 4 fF), (b3, zI E 4 fW), (b4, zI E 4 u1), (g0, .inr (4, [.ref a1, .ref a2, .int (nI S.2.length)])), (a1, zI E n fT), (a2, zI E n fQ)]) [3, 4, 5, 6, 7, 0, 1, 2] (by decide) rfl
          refine lv_if_eq (tgt := 81) hx hb d_Se_endOf_75 (by decide) (fun c_5 => ?_) (fun c_5 => ?_)
          · have hdn : ¬ (jg_dn jc fW) x = true := fun h => absurd ((hd1.1 h).symm.trans c_5) (by decide)
            have hrf : bfs_run (jg_dn jc fW) (jg_next jc sz) (f + 1) hd S = bfs_run (jg_dn jc fW) (jg_next jc sz) f (hd + 1) (jg_next jc sz x S) := by rw [bfs_run, if_pos hlt, ← hxe, if_neg hdn]
            refine lv_aload_n hx hb d_Se_endOf_81 rfl (lv_at hl 2 rfl) ?_
            refine lv_iload hx hb d_Se_endOf_82 (lv_at hl 0 rfl) ?_
            refine lv_aload_n hx hb d_Se_endOf_84 rfl (lv_at hl 1 rfl) ?_
            refine zz_gov (wr := []) [0, 1, 2, 3, 4, 5, 6, 7] [] rfl rfl (by decide) (by decide) hA hP hD hS (zz_runA (wc := [(h0, .inr (1, [.ref b1, .ref b2, .ref b3, .ref b4, .int (nI jc)])), (b1, zI E 4 fS), (b2, zI E 4 fF), (b3, zI E 4 fW), (b4, zI E 4 u1), (g0, .inr (4, [.ref a1, .ref a2, .int (nI S.2.length)])), (a1, zI E n fT), (a2, zI E n fQ)]) (As := [.int (nI x), .ref g0]) (rest := []) C (c_Js_meetNext l E h0 b1 b2 b3 b4 jc fS fF fW u1 sz fl g0 a1 a2 n fT fQ S x hJ hxP hn hnc hR ⟨hJS.1, hxz⟩) ym_Js_meetNext wd_ml_Se_49 wd_sm_meetNext wd_se_Js_meetNext wd_im_Js_meetNext wd_de_meetNext (by decide +kernel) [0, 1, 2, 3, 4, 5, 6, 7] (by decide) rfl hA hK hst hP hD hS (ci := 1) (q0 := 0) rfl rfl rfl rfl hl.1 rfl (Nat.le_of_ble_eq_true rfl) ⟨Nat.le_of_ble_eq_true rfl, Nat.le_of_ble_eq_true rfl⟩ ⟨Nat.le_of_ble_eq_true rfl, Nat.le_of_ble_eq_true rfl⟩ d_Se_endOf_85) (fun u2 H locs hR hP hD hS => ?_)
            have hP : va_P E.1 vwCl [(h0, .inr (1, [.ref b1, .ref b2, .ref b3, .ref b4, .int (nI jc)])), (b1, zI E 4 fS), (b2, zI E 4 fF), (b3, zI E 4 fW), (b4, zI E 4 u2.1), (g0, .inr (4, [.ref a1, .ref a2, .int (nI (jg_next jc sz x S).2.length)])), (a1, zI E n u2.2.1), (a2, zI E n u2.2.2)] H := hP
            have hD : va_D A [(h0, .inr (1, [.ref b1, .ref b2, .ref b3, .ref b4, .int (nI jc)])), (b1, zI E 4 fS), (b2, zI E 4 fF), (b3, zI E 4 fW), (b4, zI E 4 u2.1), (g0, .inr (4, [.ref a1, .ref a2, .int (nI (jg_next jc sz x S).2.length)])), (a1, zI E n u2.2.1), (a2, zI E n u2.2.2)] := hD
            have hJ2 := jg_next_J hJ hxP hn hnc ⟨hJS, hxz⟩
            refine lv_iinc (v := nI (hd + 1)) (lv' := [(3, .int (nI (hd + 1))), (4, .int (nI x)), (0, .ref g0), (1, .ref h0), (2, .int (nI (jg_sum fl jc)))]) hx hb d_Se_endOf_88 hl (k := 4) rfl (nI_1 _) (by decide) rfl (fun ls hl => ?_)
            refine lv_goto (tgt := 35) hx hb d_Se_endOf_91 (by decide) ?_
            exact ih (hd + 1) u2.1 u2.2.1 u2.2.2 (jg_next jc sz x S) (by omega) (by rw [← hgo, hrf]) hR hJ2.1 _ _ ls hP hD hS (lv_sub hl [2, 3, 4, 0] rfl)
          · have hdn : (jg_dn jc fW) x = true := Classical.byContradiction (fun h => c_5 (hd1.2 h))
            have hrf : bfs_run (jg_dn jc fW) (jg_next jc sz) (f + 1) hd S = (some x, S) := by rw [bfs_run, if_pos hlt, ← hxe, if_pos hdn]
            have p1 : nI x = bfs_o (bfs_run (jg_dn jc fW) (jg_next jc sz) (f + 1) hd S).1 := by rw [hrf]; rfl
            have p2 : S = (bfs_run (jg_dn jc fW) (jg_next jc sz) (f + 1) hd S).2 := by rw [hrf]
            refine lv_iload hx hb d_Se_endOf_78 (lv_at hl 0 rfl) ?_
            have eS : S = (jg_RUN jc sz fl fW).2 := by rw [← hgo]; exact p2
            have hP : va_P E.1 vwCl [(h0, .inr (1, [.ref b1, .ref b2, .ref b3, .ref b4, .int (nI jc)])), (b1, zI E 4 fS), (b2, zI E 4 fF), (b3, zI E 4 fW), (b4, zI E 4 u1), (g0, .inr (4, [.ref a1, .ref a2, .int (nI ((jg_RUN jc sz fl fW).2).2.length)])), (a1, zI E n fT), (a2, zI E n fQ)] H := by rw [← eS]; exact hP
            have hD : va_D A [(h0, .inr (1, [.ref b1, .ref b2, .ref b3, .ref b4, .int (nI jc)])), (b1, zI E 4 fS), (b2, zI E 4 fF), (b3, zI E 4 fW), (b4, zI E 4 u1), (g0, .inr (4, [.ref a1, .ref a2, .int (nI ((jg_RUN jc sz fl fW).2).2.length)])), (a1, zI E n fT), (a2, zI E n fQ)] := by rw [← eS]; exact hD
            exact zz_reti C (rfl) hS (u1, fT, fQ, a1, a2) (⟨by rw [← hgo]; exact p1, by rw [← eS]; exact hR, rfl, rfl⟩) hP hD d_Se_endOf_80
        · exact absurd (nI_lt (Nat.lt_of_lt_of_le hlt hlen) (by omega)) c_4

set_option maxHeartbeats 4000000 in
set_option maxRecDepth 100000 in
theorem c_Se_endOf_J (l : Launch) (E : zG) (h0 b1 b2 b3 b4 jc : Nat) (fS fF fW fV : Nat → Int32) (sz fl : Nat → Nat) (g0 a1 a2 n : Nat) (fT fQ : Nat → Int32) (mt : Int32) (hJ : jg_ok jc sz fl fS fF) (hn : n ≤ 10000) (hnc : 10 ^ jc ≤ n) : zMet l y_Se_endOf b_Se_endOf 5 (some .int) 2 51 0 0 E [.ref g0, .ref h0] [(h0, .inr (1, [.ref b1, .ref b2, .ref b3, .ref b4, .int (nI jc)])), (b1, zI E 4 fS), (b2, zI E 4 fF), (b3, zI E 4 fW), (b4, zI E 4 fV), (g0, .inr (4, [.ref a1, .ref a2, .int mt])), (a1, zI E n fT), (a2, zI E n fQ)] (zQi E (S := (Nat → Int32) × (Nat → Int32) × (Nat → Int32) × Nat × Nat) (fun r u => r = bfs_o (jg_RUN jc sz fl fW).1 ∧ bfs_RS n (jg_RUN jc sz fl fW).2 u.2.1 u.2.2.1 ∧ u.2.2.2.1 = a1 ∧ u.2.2.2.2 = a2) (fun u => [(h0, .inr (1, [.ref b1, .ref b2, .ref b3, .ref b4, .int (nI jc)])), (b1, zI E 4 fS), (b2, zI E 4 fF), (b3, zI E 4 fW), (b4, zI E 4 u.1), (g0, .inr (4, [.ref u.2.2.2.1, .ref u.2.2.2.2, .int (nI ((jg_RUN jc sz fl fW).2).2.length)])), (u.2.2.2.1, zI E n u.2.1), (u.2.2.2.2, zI E n u.2.2.1)])) := by
  refine zz_met (by decide +kernel) (Nat.le_of_ble_eq_true rfl) ?_
  intro p e s m below meth c A ls C hin hA hK hst hP hD hl
  obtain ⟨hx, hb, hr, hml, hown, hts, hlk⟩ := id C
  have hS : va_S A s.heap s.heap [] := va_S.rf
  have hl : lv_has ls 5 [(0, .ref g0), (1, .ref h0)] := hl
  refine lv_aload_n hx hb d_Se_endOf_0 rfl (lv_at hl 0 rfl) ?_
  refine lv_aload_n hx hb d_Se_endOf_1 rfl (lv_at hl 1 rfl) ?_
  refine zz_goi (wr := [(g0, .inr (4, [.ref a1, .ref a2, .int mt])), (a1, zI E n fT), (a2, zI E n fQ)]) [0, 1, 2, 3, 4] [5, 6, 7] rfl rfl (by decide) (by decide) hA hP hD hS (zz_runA (wc := [(h0, .inr (1, [.ref b1, .ref b2, .ref b3, .ref b4, .int (nI jc)])), (b1, zI E 4 fS), (b2, zI E 4 fF), (b3, zI E 4 fW), (b4, zI E 4 fV)]) (As := []) (rest := [.ref g0]) C (c_Js_stateCount l E h0 b1 b2 b3 b4 jc fS fF fW fV hJ.1) ym_Js_stateCount wd_ml_Se_18 wd_sm_stateCount wd_se_Js_stateCount wd_im_Js_stateCount wd_de_stateCount (by decide +kernel) [0, 1, 2, 3, 4] (by decide) rfl hA hK hst hP hD hS (ci := 1) (q0 := 0) rfl rfl rfl rfl hl.1 rfl (Nat.le_of_ble_eq_true rfl) ⟨Nat.le_of_ble_eq_true rfl, Nat.le_of_ble_eq_true rfl⟩ ⟨Nat.le_of_ble_eq_true rfl, Nat.le_of_ble_eq_true rfl⟩ d_Se_endOf_2) (fun r_7 u H locs hw hP hD hS => ?_)
  have hP : va_P E.1 vwCl [(g0, .inr (4, [.ref a1, .ref a2, .int mt])), (a1, zI E n fT), (a2, zI E n fQ), (h0, .inr (1, [.ref b1, .ref b2, .ref b3, .ref b4, .int (nI jc)])), (b1, zI E 4 fS), (b2, zI E 4 fF), (b3, zI E 4 fW), (b4, zI E 4 fV)] H := hP
  have hD : va_D A [(g0, .inr (4, [.ref a1, .ref a2, .int mt])), (a1, zI E n fT), (a2, zI E n fQ), (h0, .inr (1, [.ref b1, .ref b2, .ref b3, .ref b4, .int (nI jc)])), (b1, zI E 4 fS), (b2, zI E 4 fF), (b3, zI E 4 fW), (b4, zI E 4 fV)] := hD
  subst hw
  have hP := hP.sub (ws' := [(h0, .inr (1, [.ref b1, .ref b2, .ref b3, .ref b4, .int (nI jc)])), (b1, zI E 4 fS), (b2, zI E 4 fF), (b3, zI E 4 fW), (b4, zI E 4 fV), (g0, .inr (4, [.ref a1, .ref a2, .int mt])), (a1, zI E n fT), (a2, zI E n fQ)]) [3, 4, 5, 6, 7, 0, 1, 2] rfl
  have hD := hD.sub (ws' := [(h0, .inr (1, [.ref b1, .ref b2, .ref b3, .ref b4, .int (nI jc)])), (b1, zI E 4 fS), (b2, zI E 4 fF), (b3, zI E 4 fW), (b4, zI E 4 fV), (g0, .inr (4, [.ref a1, .ref a2, .int mt])), (a1, zI E n fT), (a2, zI E n fQ)]) [3, 4, 5, 6, 7, 0, 1, 2] (by decide) rfl
  refine zz_gov (wr := [(h0, .inr (1, [.ref b1, .ref b2, .ref b3, .ref b4, .int (nI jc)])), (b1, zI E 4 fS), (b2, zI E 4 fF), (b3, zI E 4 fW), (b4, zI E 4 fV)]) [5, 6, 7] [0, 1, 2, 3, 4] rfl rfl (by decide) (by decide) hA hP hD hS (zz_runV (wc := [(g0, .inr (4, [.ref a1, .ref a2, .int mt])), (a1, zI E n fT), (a2, zI E n fQ)]) (As := [.int (nI (10 ^ jc))]) (rest := []) C (c_Se_makeRoom_keep l E g0 a1 a2 n (10 ^ jc) fT fQ mt hnc hn) ym_Se_makeRoom wd_ml_Se_24 wd_im_Se_makeRoom wd_se_Se_makeRoom [5, 6, 7] (by decide) rfl hA hK hst hP hD hS (ci := 4) (q0 := 0) rfl rfl rfl rfl hl.1 rfl (Nat.le_of_ble_eq_true rfl) ⟨Nat.le_of_ble_eq_true rfl, Nat.le_of_ble_eq_true rfl⟩ ⟨Nat.le_of_ble_eq_true rfl, Nat.le_of_ble_eq_true rfl⟩ d_Se_endOf_5) (fun u H locs _ hP hD hS => ?_)
  have hP : va_P E.1 vwCl [(h0, .inr (1, [.ref b1, .ref b2, .ref b3, .ref b4, .int (nI jc)])), (b1, zI E 4 fS), (b2, zI E 4 fF), (b3, zI E 4 fW), (b4, zI E 4 fV), (g0, .inr (4, [.ref a1, .ref a2, .int mt])), (a1, zI E n fT), (a2, zI E n fQ)] H := hP
  have hD : va_D A [(h0, .inr (1, [.ref b1, .ref b2, .ref b3, .ref b4, .int (nI jc)])), (b1, zI E 4 fS), (b2, zI E 4 fF), (b3, zI E 4 fW), (b4, zI E 4 fV), (g0, .inr (4, [.ref a1, .ref a2, .int mt])), (a1, zI E n fT), (a2, zI E n fQ)] := hD
  refine lv_aload_n hx hb d_Se_endOf_8 rfl (lv_at hl 0 rfl) ?_
  refine zz_get C hK hP fl_Se_11 5 rfl rfl d_Se_endOf_9 ?_
  refine lv_iconst (v := 0) hx hb d_Se_endOf_12 (by decide) ?_
  refine zz_gov (wr := [(h0, .inr (1, [.ref b1, .ref b2, .ref b3, .ref b4, .int (nI jc)])), (b1, zI E 4 fS), (b2, zI E 4 fF), (b3, zI E 4 fW), (b4, zI E 4 fV), (g0, .inr (4, [.ref a1, .ref a2, .int mt])), (a2, zI E n fQ)]) [6] [0, 1, 2, 3, 4, 5, 7] rfl rfl (by decide) (by decide) hA hP hD hS (zz_runS (wc := [(a1, zI E n fT)]) (As := [.ref a1, .int 0]) (rest := []) C (c_Ar_fill l E a1 n fT 0 hn) ym_Ar_fill wd_ml_Se_28 wd_st_Ar_fill [6] (by decide) rfl hA hK hst hP hD hS rfl hl.1 rfl (Nat.le_of_ble_eq_true rfl) ⟨Nat.le_of_ble_eq_true rfl, Nat.le_of_ble_eq_true rfl⟩ ⟨Nat.le_of_ble_eq_true rfl, Nat.le_of_ble_eq_true rfl⟩ d_Se_endOf_13) (fun u3 H locs hz3 hP hD hS => ?_)
  have hP : va_P E.1 vwCl [(h0, .inr (1, [.ref b1, .ref b2, .ref b3, .ref b4, .int (nI jc)])), (b1, zI E 4 fS), (b2, zI E 4 fF), (b3, zI E 4 fW), (b4, zI E 4 fV), (g0, .inr (4, [.ref a1, .ref a2, .int mt])), (a2, zI E n fQ), (a1, zI E n u3)] H := hP
  have hD : va_D A [(h0, .inr (1, [.ref b1, .ref b2, .ref b3, .ref b4, .int (nI jc)])), (b1, zI E 4 fS), (b2, zI E 4 fF), (b3, zI E 4 fW), (b4, zI E 4 fV), (g0, .inr (4, [.ref a1, .ref a2, .int mt])), (a2, zI E n fQ), (a1, zI E n u3)] := hD
  have hP := hP.sub (ws' := [(h0, .inr (1, [.ref b1, .ref b2, .ref b3, .ref b4, .int (nI jc)])), (b1, zI E 4 fS), (b2, zI E 4 fF), (b3, zI E 4 fW), (b4, zI E 4 fV), (g0, .inr (4, [.ref a1, .ref a2, .int mt])), (a1, zI E n u3), (a2, zI E n fQ)]) [0, 1, 2, 3, 4, 5, 7, 6] rfl
  have hD := hD.sub (ws' := [(h0, .inr (1, [.ref b1, .ref b2, .ref b3, .ref b4, .int (nI jc)])), (b1, zI E 4 fS), (b2, zI E 4 fF), (b3, zI E 4 fW), (b4, zI E 4 fV), (g0, .inr (4, [.ref a1, .ref a2, .int mt])), (a1, zI E n u3), (a2, zI E n fQ)]) [0, 1, 2, 3, 4, 5, 7, 6] (by decide) rfl
  refine lv_aload_n hx hb d_Se_endOf_16 rfl (lv_at hl 0 rfl) ?_
  refine lv_iconst (v := 0) hx hb d_Se_endOf_17 (by decide) ?_
  refine zz_put C hK hP hD hS fl_Se_34 5 rfl rfl rfl (Nat.le_of_ble_eq_true rfl) d_Se_endOf_18 (fun H locs hP hD hS => ?_)
  have hP : va_P E.1 vwCl [(h0, .inr (1, [.ref b1, .ref b2, .ref b3, .ref b4, .int (nI jc)])), (b1, zI E 4 fS), (b2, zI E 4 fF), (b3, zI E 4 fW), (b4, zI E 4 fV), (g0, .inr (4, [.ref a1, .ref a2, .int 0])), (a1, zI E n u3), (a2, zI E n fQ)] H := hP
  have hD : va_D A [(h0, .inr (1, [.ref b1, .ref b2, .ref b3, .ref b4, .int (nI jc)])), (b1, zI E 4 fS), (b2, zI E 4 fF), (b3, zI E 4 fW), (b4, zI E 4 fV), (g0, .inr (4, [.ref a1, .ref a2, .int 0])), (a1, zI E n u3), (a2, zI E n fQ)] := hD
  refine lv_aload_n hx hb d_Se_endOf_21 rfl (lv_at hl 1 rfl) ?_
  refine zz_goi (wr := [(g0, .inr (4, [.ref a1, .ref a2, .int 0])), (a1, zI E n u3), (a2, zI E n fQ)]) [0, 1, 2, 3, 4] [5, 6, 7] rfl rfl (by decide) (by decide) hA hP hD hS (zz_runA (wc := [(h0, .inr (1, [.ref b1, .ref b2, .ref b3, .ref b4, .int (nI jc)])), (b1, zI E 4 fS), (b2, zI E 4 fF), (b3, zI E 4 fW), (b4, zI E 4 fV)]) (As := []) (rest := []) C (c_Js_startState l E h0 b1 b2 b3 b4 jc fS fF fW fV sz fl hJ) ym_Js_startState wd_ml_Se_38 wd_sm_startState wd_se_Js_startState wd_im_Js_startState wd_de_startState (by decide +kernel) [0, 1, 2, 3, 4] (by decide) rfl hA hK hst hP hD hS (ci := 1) (q0 := 0) rfl rfl rfl rfl hl.1 rfl (Nat.le_of_ble_eq_true rfl) ⟨Nat.le_of_ble_eq_true rfl, Nat.le_of_ble_eq_true rfl⟩ ⟨Nat.le_of_ble_eq_true rfl, Nat.le_of_ble_eq_true rfl⟩ d_Se_endOf_22) (fun r_10 u H locs hw hP hD hS => ?_)
  have hP : va_P E.1 vwCl [(g0, .inr (4, [.ref a1, .ref a2, .int 0])), (a1, zI E n u3), (a2, zI E n fQ), (h0, .inr (1, [.ref b1, .ref b2, .ref b3, .ref b4, .int (nI jc)])), (b1, zI E 4 fS), (b2, zI E 4 fF), (b3, zI E 4 fW), (b4, zI E 4 fV)] H := hP
  have hD : va_D A [(g0, .inr (4, [.ref a1, .ref a2, .int 0])), (a1, zI E n u3), (a2, zI E n fQ), (h0, .inr (1, [.ref b1, .ref b2, .ref b3, .ref b4, .int (nI jc)])), (b1, zI E 4 fS), (b2, zI E 4 fF), (b3, zI E 4 fW), (b4, zI E 4 fV)] := hD
  subst hw
  have hP := hP.sub (ws' := [(h0, .inr (1, [.ref b1, .ref b2, .ref b3, .ref b4, .int (nI jc)])), (b1, zI E 4 fS), (b2, zI E 4 fF), (b3, zI E 4 fW), (b4, zI E 4 fV), (g0, .inr (4, [.ref a1, .ref a2, .int 0])), (a1, zI E n u3), (a2, zI E n fQ)]) [3, 4, 5, 6, 7, 0, 1, 2] rfl
  have hD := hD.sub (ws' := [(h0, .inr (1, [.ref b1, .ref b2, .ref b3, .ref b4, .int (nI jc)])), (b1, zI E 4 fS), (b2, zI E 4 fF), (b3, zI E 4 fW), (b4, zI E 4 fV), (g0, .inr (4, [.ref a1, .ref a2, .int 0])), (a1, zI E n u3), (a2, zI E n fQ)]) [3, 4, 5, 6, 7, 0, 1, 2] (by decide) rfl
  have hP : va_P E.1 vwCl [(h0, .inr (1, [.ref b1, .ref b2, .ref b3, .ref b4, .int (nI jc)])), (b1, zI E 4 fS), (b2, zI E 4 fF), (b3, zI E 4 fW), (b4, zI E 4 fV), (g0, .inr (4, [.ref a1, .ref a2, .int (nI bfs_0.2.length)])), (a1, zI E n u3), (a2, zI E n fQ)] H := hP
  have hD : va_D A [(h0, .inr (1, [.ref b1, .ref b2, .ref b3, .ref b4, .int (nI jc)])), (b1, zI E 4 fS), (b2, zI E 4 fF), (b3, zI E 4 fW), (b4, zI E 4 fV), (g0, .inr (4, [.ref a1, .ref a2, .int (nI bfs_0.2.length)])), (a1, zI E n u3), (a2, zI E n fQ)] := hD
  have hsP : (jg_good jc sz) (jg_sum fl jc) := jg_sum_good hJ
  refine lv_istore_n (lv' := [(2, .int (nI (jg_sum fl jc))), (0, .ref g0), (1, .ref h0)]) hx hb d_Se_endOf_25 rfl hl (by decide) rfl (fun ls hl => ?_)
  refine lv_aload_n hx hb d_Se_endOf_26 rfl (lv_at hl 1 rfl) ?_
  refine lv_iload_n hx hb d_Se_endOf_27 rfl (lv_at hl 0 rfl) ?_
  refine lv_iload_n hx hb d_Se_endOf_28 rfl (lv_at hl 0 rfl) ?_
  refine lv_iconst (v := 0) hx hb d_Se_endOf_29 (by decide) ?_
  refine zz_eqi (y := nI 0) rfl ?_
  refine zz_gov (wr := [(h0, .inr (1, [.ref b1, .ref b2, .ref b3, .ref b4, .int (nI jc)])), (b1, zI E 4 fS), (b2, zI E 4 fF), (b3, zI E 4 fW), (b4, zI E 4 fV)]) [5, 6, 7] [0, 1, 2, 3, 4] rfl rfl (by decide) (by decide) hA hP hD hS (zz_runV (wc := [(g0, .inr (4, [.ref a1, .ref a2, .int (nI bfs_0.2.length)])), (a1, zI E n u3), (a2, zI E n fQ)]) (As := [.int (nI (jg_sum fl jc)), .int (nI (jg_sum fl jc)), .int (nI 0)]) (rest := []) C (c_Se_meet l E g0 a1 a2 n u3 fQ bfs_0 (jg_sum fl jc) (jg_sum fl jc) 0 hn (Nat.lt_of_lt_of_le hsP.1 hnc) (Nat.lt_of_lt_of_le hsP.1 hnc) (by decide) (bfs_0_RS hz3) (bfs_0_WF _)) ym_Se_meet wd_ml_Se_41 wd_im_Se_meet wd_se_Se_meet [5, 6, 7] (by decide) rfl hA hK hst hP hD hS (ci := 4) (q0 := 0) rfl rfl rfl rfl hl.1 rfl (Nat.le_of_ble_eq_true rfl) ⟨Nat.le_of_ble_eq_true rfl, Nat.le_of_ble_eq_true rfl⟩ ⟨Nat.le_of_ble_eq_true rfl, Nat.le_of_ble_eq_true rfl⟩ d_Se_endOf_30) (fun u4 H locs hR4 hP hD hS => ?_)
  have hP : va_P E.1 vwCl [(h0, .inr (1, [.ref b1, .ref b2, .ref b3, .ref b4, .int (nI jc)])), (b1, zI E 4 fS), (b2, zI E 4 fF), (b3, zI E 4 fW), (b4, zI E 4 fV), (g0, .inr (4, [.ref a1, .ref a2, .int (nI (bfs_mt bfs_0 (jg_sum fl jc) (jg_sum fl jc, 0)).2.length)])), (a1, zI E n u4.1), (a2, zI E n u4.2)] H := hP
  have hD : va_D A [(h0, .inr (1, [.ref b1, .ref b2, .ref b3, .ref b4, .int (nI jc)])), (b1, zI E 4 fS), (b2, zI E 4 fF), (b3, zI E 4 fW), (b4, zI E 4 fV), (g0, .inr (4, [.ref a1, .ref a2, .int (nI (bfs_mt bfs_0 (jg_sum fl jc) (jg_sum fl jc, 0)).2.length)])), (a1, zI E n u4.1), (a2, zI E n u4.2)] := hD
  refine lv_iconst (v := 0) hx hb d_Se_endOf_33 (by decide) ?_
  refine lv_istore_n (lv' := [(3, .int 0), (2, .int (nI (jg_sum fl jc))), (0, .ref g0), (1, .ref h0)]) hx hb d_Se_endOf_34 rfl hl (by decide) rfl (fun ls hl => ?_)
  have hl := lv_sub (l' := [(0, .ref g0), (1, .ref h0), (2, .int (nI (jg_sum fl jc))), (3, .int (nI 0))]) hl [2, 3, 1, 0] (rfl)
  exact lp_Se_endOf_J hJ hn hnc C hA hK hst 10000 0 fV u4.1 u4.2 (bfs_mt bfs_0 (jg_sum fl jc) (jg_sum fl jc, 0)) (by omega) rfl hR4 (bfs_st_J hn (Nat.lt_of_lt_of_le hsP.1 hnc) hsP) _ _ ls hP hD hS hl

set_option maxHeartbeats 4000000 in
set_option maxRecDepth 100000 in
theorem lp_Se_endOf_Jn {p : Program} {l : Launch} {e : Env} {s : State} {m : MethodId} {below : List Frame} {meth : Method} {c : Code} {A : Nat → Prop}  {E : zG} {h0 b1 b2 b3 b4 jc : Nat} {fS fF fW : Nat → Int32} {sz fl : Nat → Nat} {g0 : Nat} (hJ : jg_ok jc sz fl fS fF) {e1 e2 : Nat} (hn : 10 ^ jc ≤ 10000) (hnc : 10 ^ jc ≤ 10 ^ jc) (C : cx p s m #[.ref g0, .ref h0] meth c b_Se_endOf 5 y_Se_endOf.cls (some .int)) (hA : ∀ q, s.heap.size ≤ q → A q) (hK : kt E s) (hst : stt A s s.heap) :
    ∀ (f hd : Nat) (fV : Nat → Int32) (fT fQ : Nat → Int32) (S : (Nat → Nat) × List Nat) (_ : hd + f = 10000) (_ : bfs_run (jg_dn jc fW) (jg_next jc sz) f hd S = jg_RUN jc sz fl fW) (_ : bfs_RS (10 ^ jc) S fT fQ) (_ : bfs_J (10 ^ jc) (jg_good jc sz) S) (H : Heap) (locs : List Loc) (ls : Array Slot), va_P E.1 vwCl [(h0, .inr (1, [.ref b1, .ref b2, .ref b3, .ref b4, .int (nI jc)])), (b1, zI E 4 fS), (b2, zI E 4 fF), (b3, zI E 4 fW), (b4, zI E 4 fV), (g0, .inr (4, [.ref e1, .ref e2, .int (nI S.2.length)])), (e1, zI E (10 ^ jc) fT), (e2, zI E (10 ^ jc) fQ)] H → va_D A [(h0, .inr (1, [.ref b1, .ref b2, .ref b3, .ref b4, .int (nI jc)])), (b1, zI E 4 fS), (b2, zI E 4 fF), (b3, zI E 4 fW), (b4, zI E 4 fV), (g0, .inr (4, [.ref e1, .ref e2, .int (nI S.2.length)])), (e1, zI E (10 ^ jc) fT), (e2, zI E (10 ^ jc) fQ)] → va_S A s.heap H locs → lv_has ls 5 [(0, .ref g0), (1, .ref h0), (2, .int (nI (jg_sum fl jc))), (3, .int (nI hd))] → W p l e (zR 2 51 2 (10 ^ jc + 10 ^ jc)) s m #[.ref g0, .ref h0] below meth c H locs 2 (10 ^ jc + 10 ^ jc) (MQ below ((zQi E (S := (Nat → Int32) × (Nat → Int32) × (Nat → Int32) × Nat × Nat) (fun r u => r = bfs_o (jg_RUN jc sz fl fW).1 ∧ bfs_RS (10 ^ jc) (jg_RUN jc sz fl fW).2 u.2.1 u.2.2.1) (fun u => [(h0, .inr (1, [.ref b1, .ref b2, .ref b3, .ref b4, .int (nI jc)])), (b1, zI E 4 fS), (b2, zI E 4 fF), (b3, zI E 4 fW), (b4, zI E 4 u.1), (g0, .inr (4, [.ref u.2.2.2.1, .ref u.2.2.2.2, .int (nI ((jg_RUN jc sz fl fW).2).2.length)])), (u.2.2.2.1, zI E (10 ^ jc) u.2.1), (u.2.2.2.2, zI E (10 ^ jc) u.2.2.1)])) A) #[.ref g0, .ref h0] s 2 (10 ^ jc + 10 ^ jc) A) (F0 m 35 ls []) := by
  obtain ⟨hx, hb, hr, hml, hown, hts, hlk⟩ := id C
  intro f
  induction f with
  | zero =>
    intro hd fV fT fQ S hi hgo hR hJS H locs ls hP hD hS hl
    have hi : hd = 10000 := by omega
    subst hi
    refine lv_iload_n hx hb d_Se_endOf_35 rfl (lv_at hl 3 rfl) ?_
    refine lv_sipush (v := 10000) hx hb d_Se_endOf_36 (by decide) ?_
    refine lv_icmp_ge (tgt := 94) hx hb d_Se_endOf_39 (by decide) (fun c_12 => ?_) (fun c_12 => ?_)
    · refine lv_iconst (v := (-1)) hx hb d_Se_endOf_94 (by decide) ?_
      have p1 : (-1 : Int32) = bfs_o (bfs_run (jg_dn jc fW) (jg_next jc sz) 0 10000 S).1 := rfl
      have p2 : S = (bfs_run (jg_dn jc fW) (jg_next jc sz) 0 10000 S).2 := rfl
      have eS : S = (jg_RUN jc sz fl fW).2 := by rw [← hgo]; exact p2
      have hP : va_P E.1 vwCl [(h0, .inr (1, [.ref b1, .ref b2, .ref b3, .ref b4, .int (nI jc)])), (b1, zI E 4 fS), (b2, zI E 4 fF), (b3, zI E 4 fW), (b4, zI E 4 fV), (g0, .inr (4, [.ref e1, .ref e2, .int (nI ((jg_RUN jc sz fl fW).2).2.length)])), (e1, zI E (10 ^ jc) fT), (e2, zI E (10 ^ jc) fQ)] H := by rw [← eS]; exact hP
      have hD : va_D A [(h0, .inr (1, [.ref b1, .ref b2, .ref b3, .ref b4, .int (nI jc)])), (b1, zI E 4 fS), (b2, zI E 4 fF), (b3, zI E 4 fW), (b4, zI E 4 fV), (g0, .inr (4, [.ref e1, .ref e2, .int (nI ((jg_RUN jc sz fl fW).2).2.length)])), (e1, zI E (10 ^ jc) fT), (e2, zI E (10 ^ jc) fQ)] := by rw [← eS]; exact hD
      exact zz_reti C (rfl) hS (fV, fT, fQ, e1, e2) (⟨by rw [← hgo]; exact p1, by rw [← eS]; exact hR⟩) hP hD d_Se_endOf_95
    · exact absurd (nI_le (b := 10000) (Nat.le_refl _) (by decide)) c_12
  | succ f ih =>
    intro hd fV fT fQ S hi hgo hR hJS H locs ls hP hD hS hl
    have hlen := bfs_le hJS.1
    refine lv_iload_n hx hb d_Se_endOf_35 rfl (lv_at hl 3 rfl) ?_
    refine lv_sipush (v := 10000) hx hb d_Se_endOf_36 (by decide) ?_
    refine lv_icmp_ge (tgt := 94) hx hb d_Se_endOf_39 (by decide) (fun c_13 => ?_) (fun c_13 => ?_)
    · exact absurd c_13 (nI_ge (b := 10000) (by omega) (by decide))
    · refine lv_iload_n hx hb d_Se_endOf_42 rfl (lv_at hl 3 rfl) ?_
      refine lv_aload_n hx hb d_Se_endOf_43 rfl (lv_at hl 0 rfl) ?_
      refine zz_get C hK hP fl_Se_34 5 rfl rfl d_Se_endOf_44 ?_
      refine lv_icmp_ge (tgt := 59) hx hb d_Se_endOf_47 (by decide) (fun c_14 => ?_) (fun c_14 => ?_)
      · have hge : ¬ hd < S.2.length := fun z => absurd c_14 (nI_ge z (by omega))
        have hrf : bfs_run (jg_dn jc fW) (jg_next jc sz) (f + 1) hd S = (none, S) := by rw [bfs_run, if_neg hge]
        have p1 : (-1 : Int32) = bfs_o (bfs_run (jg_dn jc fW) (jg_next jc sz) (f + 1) hd S).1 := by rw [hrf]; rfl
        have p2 : S = (bfs_run (jg_dn jc fW) (jg_next jc sz) (f + 1) hd S).2 := by rw [hrf]
        refine lv_iconst (v := (-1)) hx hb d_Se_endOf_59 (by decide) ?_
        have eS : S = (jg_RUN jc sz fl fW).2 := by rw [← hgo]; exact p2
        have hP : va_P E.1 vwCl [(h0, .inr (1, [.ref b1, .ref b2, .ref b3, .ref b4, .int (nI jc)])), (b1, zI E 4 fS), (b2, zI E 4 fF), (b3, zI E 4 fW), (b4, zI E 4 fV), (g0, .inr (4, [.ref e1, .ref e2, .int (nI ((jg_RUN jc sz fl fW).2).2.length)])), (e1, zI E (10 ^ jc) fT), (e2, zI E (10 ^ jc) fQ)] H := by rw [← eS]; exact hP
        have hD : va_D A [(h0, .inr (1, [.ref b1, .ref b2, .ref b3, .ref b4, .int (nI jc)])), (b1, zI E 4 fS), (b2, zI E 4 fF), (b3, zI E 4 fW), (b4, zI E 4 fV), (g0, .inr (4, [.ref e1, .ref e2, .int (nI ((jg_RUN jc sz fl fW).2).2.length)])), (e1, zI E (10 ^ jc) fT), (e2, zI E (10 ^ jc) fQ)] := by rw [← eS]; exact hD
        exact zz_reti C (rfl) hS (fV, fT, fQ, e1, e2) (⟨by rw [← hgo]; exact p1, by rw [← eS]; exact hR⟩) hP hD d_Se_endOf_60
      · have hlt : hd < S.2.length := zz_ltc c_14 (by omega)
        refine lv_iload_n hx hb d_Se_endOf_50 rfl (lv_at hl 3 rfl) ?_
        refine lv_aload_n hx hb d_Se_endOf_51 rfl (lv_at hl 0 rfl) ?_
        refine zz_get C hK hP fl_Se_15 5 rfl rfl d_Se_endOf_52 ?_
        refine zz_alenI C hK hP 7 rfl d_Se_endOf_55 ?_
        refine lv_icmp_lt (tgt := 61) hx hb d_Se_endOf_56 (by decide) (fun c_15 => ?_) (fun c_15 => ?_)
        · obtain ⟨x, hxe⟩ : ∃ x, x = S.2.getD hd 0 := ⟨_, rfl⟩
          have hxm : x ∈ S.2 := by rw [hxe]; exact bfs_getD hlt
          have hxP : (jg_good jc sz) x := hJS.2 x hxm
          have hxn := (hJS.1.1 x hxm).1
          have hxz := (hJS.1.1 x hxm).2
          refine lv_aload_n hx hb d_Se_endOf_61 rfl (lv_at hl 0 rfl) ?_
          refine zz_get C hK hP fl_Se_15 5 rfl rfl d_Se_endOf_62 ?_
          refine lv_iload_n hx hb d_Se_endOf_65 rfl (lv_at hl 3 rfl) ?_
          refine zz_ialdN C hK hP 7 rfl (j := hd) (Nat.lt_of_lt_of_le hlt hlen) (by omega) d_Se_endOf_66 ?_
          refine zz_eqi (y := nI x) (by rw [hxe]; exact hR.2 hd hlt) ?_
          refine lv_istore (lv' := [(4, .int (nI x)), (0, .ref g0), (1, .ref h0), (2, .int (nI (jg_sum fl jc))), (3, .int (nI hd))]) hx hb d_Se_endOf_67 hl (by decide) rfl (fun ls hl => ?_)
          refine lv_aload_n hx hb d_Se_endOf_69 rfl (lv_at hl 2 rfl) ?_
          refine lv_iload hx hb d_Se_endOf_70 (lv_at hl 0 rfl) ?_
          have hx4 : x < 10000 := Nat.lt_of_lt_of_le hxP.1 (jg_pow hJ.1)
          refine zz_goi (wr := [(g0, .inr (4, [.ref e1, .ref e2, .int (nI S.2.length)])), (e1, zI E (10 ^ jc) fT), (e2, zI E (10 ^ jc) fQ)]) [0, 1, 2, 3, 4] [5, 6, 7] rfl rfl (by decide) (by decide) hA hP hD hS (zz_runA (wc := [(h0, .inr (1, [.ref b1, .ref b2, .ref b3, .ref b4, .int (nI jc)])), (b1, zI E 4 fS), (b2, zI E 4 fF), (b3, zI E 4 fW), (b4, zI E 4 fV)]) (As := [.int (nI x)]) (rest := []) C (c_Js_isDone l E h0 b1 b2 b3 b4 jc fS fF fW fV x hJ.1 hx4) ym_Js_isDone wd_ml_Se_45 wd_sm_isDone wd_se_Js_isDone wd_im_Js_isDone wd_de_isDone (by decide +kernel) [0, 1, 2, 3, 4] (by decide) rfl hA hK hst hP hD hS (ci := 1) (q0 := 0) rfl rfl rfl rfl hl.1 rfl (Nat.le_of_ble_eq_true rfl) ⟨Nat.le_of_ble_eq_true rfl, Nat.le_of_ble_eq_true rfl⟩ ⟨by dsimp only [zR]; omega, by dsimp only [zR]; omega⟩ d_Se_endOf_72) (fun r1 u1 H locs hw1 hP hD hS => ?_)
          have hP : va_P E.1 vwCl [(g0, .inr (4, [.ref e1, .ref e2, .int (nI S.2.length)])), (e1, zI E (10 ^ jc) fT), (e2, zI E (10 ^ jc) fQ), (h0, .inr (1, [.ref b1, .ref b2, .ref b3, .ref b4, .int (nI jc)])), (b1, zI E 4 fS), (b2, zI E 4 fF), (b3, zI E 4 fW), (b4, zI E 4 u1)] H := hP
          have hD : va_D A [(g0, .inr (4, [.ref e1, .ref e2, .int (nI S.2.length)])), (e1, zI E (10 ^ jc) fT), (e2, zI E (10 ^ jc) fQ), (h0, .inr (1, [.ref b1, .ref b2, .ref b3, .ref b4, .int (nI jc)])), (b1, zI E 4 fS), (b2, zI E 4 fF), (b3, zI E 4 fW), (b4, zI E 4 u1)] := hD
          have hd1 : (jg_dn jc fW x = true → r1 = 1) ∧ (¬ jg_dn jc fW x = true → r1 = 0) := ⟨fun h => hw1.2.1 (of_decide_eq_true h), fun h => hw1.2.2 (fun z => h (decide_eq_true z))⟩
          have hP := hP.sub (ws' := [(h0, .inr (1, [.ref b1, .ref b2, .ref b3, .ref b4, .int (nI jc)])), (b1, zI E 4 fS), (b2, zI E 4 fF), (b3, zI E 4 fW), (b4, zI E 4 u1), (g0, .inr (4, [.ref e1, .ref e2, .int (nI S.2.length)])), (e1, zI E (10 ^ jc) fT), (e2, zI E (10 ^ jc) fQ)]) [3, 4, 5, 6, 7, 0, 1, 2] rfl
          have hD := hD.sub (ws' := [(h0, .inr (1, [.ref b1, .ref b2, .ref b3, .ref b4, .int (nI jc)])), (b1, zI E 4 fS), (b2, zI E 4 fF), (b3, zI E 4 fW), (b4, zI E 4 u1), (g0, .inr (4, [.ref e1, .ref e2, .int (nI S.2.length)])), (e1, zI E (10 ^ jc) fT), (e2, zI E (10 ^ jc) fQ)]) [3, 4, 5, 6, 7, 0, 1, 2] (by decide) rfl
          refine lv_if_eq (tgt := 81) hx hb d_Se_endOf_75 (by decide) (fun c_16 => ?_) (fun c_16 => ?_)
          · have hdn : ¬ (jg_dn jc fW) x = true := fun h => absurd ((hd1.1 h).symm.trans c_16) (by decide)
            have hrf : bfs_run (jg_dn jc fW) (jg_next jc sz) (f + 1) hd S = bfs_run (jg_dn jc fW) (jg_next jc sz) f (hd + 1) (jg_next jc sz x S) := by rw [bfs_run, if_pos hlt, ← hxe, if_neg hdn]
            refine lv_aload_n hx hb d_Se_endOf_81 rfl (lv_at hl 2 rfl) ?_
            refine lv_iload hx hb d_Se_endOf_82 (lv_at hl 0 rfl) ?_
            refine lv_aload_n hx hb d_Se_endOf_84 rfl (lv_at hl 1 rfl) ?_
            refine zz_gov (wr := []) [0, 1, 2, 3, 4, 5, 6, 7] [] rfl rfl (by decide) (by decide) hA hP hD hS (zz_runA (wc := [(h0, .inr (1, [.ref b1, .ref b2, .ref b3, .ref b4, .int (nI jc)])), (b1, zI E 4 fS), (b2, zI E 4 fF), (b3, zI E 4 fW), (b4, zI E 4 u1), (g0, .inr (4, [.ref e1, .ref e2, .int (nI S.2.length)])), (e1, zI E (10 ^ jc) fT), (e2, zI E (10 ^ jc) fQ)]) (As := [.int (nI x), .ref g0]) (rest := []) C (c_Js_meetNext l E h0 b1 b2 b3 b4 jc fS fF fW u1 sz fl g0 e1 e2 (10 ^ jc) fT fQ S x hJ hxP hn hnc hR ⟨hJS.1, hxz⟩) ym_Js_meetNext wd_ml_Se_49 wd_sm_meetNext wd_se_Js_meetNext wd_im_Js_meetNext wd_de_meetNext (by decide +kernel) [0, 1, 2, 3, 4, 5, 6, 7] (by decide) rfl hA hK hst hP hD hS (ci := 1) (q0 := 0) rfl rfl rfl rfl hl.1 rfl (Nat.le_of_ble_eq_true rfl) ⟨Nat.le_of_ble_eq_true rfl, Nat.le_of_ble_eq_true rfl⟩ ⟨by dsimp only [zR]; omega, by dsimp only [zR]; omega⟩ d_Se_endOf_85) (fun u2 H locs hR hP hD hS => ?_)
            have hP : va_P E.1 vwCl [(h0, .inr (1, [.ref b1, .ref b2, .ref b3, .ref b4, .int (nI jc)])), (b1, zI E 4 fS), (b2, zI E 4 fF), (b3, zI E 4 fW), (b4, zI E 4 u2.1), (g0, .inr (4, [.ref e1, .ref e2, .int (nI (jg_next jc sz x S).2.length)])), (e1, zI E (10 ^ jc) u2.2.1), (e2, zI E (10 ^ jc) u2.2.2)] H := hP
            have hD : va_D A [(h0, .inr (1, [.ref b1, .ref b2, .ref b3, .ref b4, .int (nI jc)])), (b1, zI E 4 fS), (b2, zI E 4 fF), (b3, zI E 4 fW), (b4, zI E 4 u2.1), (g0, .inr (4, [.ref e1, .ref e2, .int (nI (jg_next jc sz x S).2.length)])), (e1, zI E (10 ^ jc) u2.2.1), (e2, zI E (10 ^ jc) u2.2.2)] := hD
            have hJ2 := jg_next_J hJ hxP hn hnc ⟨hJS, hxz⟩
            refine lv_iinc (v := nI (hd + 1)) (lv' := [(3, .int (nI (hd + 1))), (4, .int (nI x)), (0, .ref g0), (1, .ref h0), (2, .int (nI (jg_sum fl jc)))]) hx hb d_Se_endOf_88 hl (k := 4) rfl (nI_1 _) (by decide) rfl (fun ls hl => ?_)
            refine lv_goto (tgt := 35) hx hb d_Se_endOf_91 (by decide) ?_
            exact ih (hd + 1) u2.1 u2.2.1 u2.2.2 (jg_next jc sz x S) (by omega) (by rw [← hgo, hrf]) hR hJ2.1 _ _ ls hP hD hS (lv_sub hl [2, 3, 4, 0] rfl)
          · have hdn : (jg_dn jc fW) x = true := Classical.byContradiction (fun h => c_16 (hd1.2 h))
            have hrf : bfs_run (jg_dn jc fW) (jg_next jc sz) (f + 1) hd S = (some x, S) := by rw [bfs_run, if_pos hlt, ← hxe, if_pos hdn]
            have p1 : nI x = bfs_o (bfs_run (jg_dn jc fW) (jg_next jc sz) (f + 1) hd S).1 := by rw [hrf]; rfl
            have p2 : S = (bfs_run (jg_dn jc fW) (jg_next jc sz) (f + 1) hd S).2 := by rw [hrf]
            refine lv_iload hx hb d_Se_endOf_78 (lv_at hl 0 rfl) ?_
            have eS : S = (jg_RUN jc sz fl fW).2 := by rw [← hgo]; exact p2
            have hP : va_P E.1 vwCl [(h0, .inr (1, [.ref b1, .ref b2, .ref b3, .ref b4, .int (nI jc)])), (b1, zI E 4 fS), (b2, zI E 4 fF), (b3, zI E 4 fW), (b4, zI E 4 u1), (g0, .inr (4, [.ref e1, .ref e2, .int (nI ((jg_RUN jc sz fl fW).2).2.length)])), (e1, zI E (10 ^ jc) fT), (e2, zI E (10 ^ jc) fQ)] H := by rw [← eS]; exact hP
            have hD : va_D A [(h0, .inr (1, [.ref b1, .ref b2, .ref b3, .ref b4, .int (nI jc)])), (b1, zI E 4 fS), (b2, zI E 4 fF), (b3, zI E 4 fW), (b4, zI E 4 u1), (g0, .inr (4, [.ref e1, .ref e2, .int (nI ((jg_RUN jc sz fl fW).2).2.length)])), (e1, zI E (10 ^ jc) fT), (e2, zI E (10 ^ jc) fQ)] := by rw [← eS]; exact hD
            exact zz_reti C (rfl) hS (u1, fT, fQ, e1, e2) (⟨by rw [← hgo]; exact p1, by rw [← eS]; exact hR⟩) hP hD d_Se_endOf_80
        · exact absurd (nI_lt (Nat.lt_of_lt_of_le hlt hlen) (by omega)) c_15

set_option maxHeartbeats 4000000 in
set_option maxRecDepth 100000 in
theorem c_Se_endOf_Jn (l : Launch) (E : zG) (h0 b1 b2 b3 b4 jc : Nat) (fS fF fW fV : Nat → Int32) (sz fl : Nat → Nat) (g0 a1 a2 n : Nat) (fT fQ : Nat → Int32) (mt : Int32) (hJ : jg_ok jc sz fl fS fF) (hnc : n < 10 ^ jc) : zMet l y_Se_endOf b_Se_endOf 5 (some .int) 2 51 2 (10 ^ jc + 10 ^ jc) E [.ref g0, .ref h0] [(h0, .inr (1, [.ref b1, .ref b2, .ref b3, .ref b4, .int (nI jc)])), (b1, zI E 4 fS), (b2, zI E 4 fF), (b3, zI E 4 fW), (b4, zI E 4 fV), (g0, .inr (4, [.ref a1, .ref a2, .int mt])), (a1, zI E n fT), (a2, zI E n fQ)] (zQi E (S := (Nat → Int32) × (Nat → Int32) × (Nat → Int32) × Nat × Nat) (fun r u => r = bfs_o (jg_RUN jc sz fl fW).1 ∧ bfs_RS (10 ^ jc) (jg_RUN jc sz fl fW).2 u.2.1 u.2.2.1) (fun u => [(h0, .inr (1, [.ref b1, .ref b2, .ref b3, .ref b4, .int (nI jc)])), (b1, zI E 4 fS), (b2, zI E 4 fF), (b3, zI E 4 fW), (b4, zI E 4 u.1), (g0, .inr (4, [.ref u.2.2.2.1, .ref u.2.2.2.2, .int (nI ((jg_RUN jc sz fl fW).2).2.length)])), (u.2.2.2.1, zI E (10 ^ jc) u.2.1), (u.2.2.2.2, zI E (10 ^ jc) u.2.2.1)])) := by
  refine zz_met (by decide +kernel) (Nat.le_of_ble_eq_true rfl) ?_
  intro p e s m below meth c A ls C hin hA hK hst hP hD hl
  obtain ⟨hx, hb, hr, hml, hown, hts, hlk⟩ := id C
  have hS : va_S A s.heap s.heap [] := va_S.rf
  have hl : lv_has ls 5 [(0, .ref g0), (1, .ref h0)] := hl
  refine lv_aload_n hx hb d_Se_endOf_0 rfl (lv_at hl 0 rfl) ?_
  refine lv_aload_n hx hb d_Se_endOf_1 rfl (lv_at hl 1 rfl) ?_
  refine zz_goi (wr := [(g0, .inr (4, [.ref a1, .ref a2, .int mt])), (a1, zI E n fT), (a2, zI E n fQ)]) [0, 1, 2, 3, 4] [5, 6, 7] rfl rfl (by decide) (by decide) hA hP hD hS (zz_runA (wc := [(h0, .inr (1, [.ref b1, .ref b2, .ref b3, .ref b4, .int (nI jc)])), (b1, zI E 4 fS), (b2, zI E 4 fF), (b3, zI E 4 fW), (b4, zI E 4 fV)]) (As := []) (rest := [.ref g0]) C (c_Js_stateCount l E h0 b1 b2 b3 b4 jc fS fF fW fV hJ.1) ym_Js_stateCount wd_ml_Se_18 wd_sm_stateCount wd_se_Js_stateCount wd_im_Js_stateCount wd_de_stateCount (by decide +kernel) [0, 1, 2, 3, 4] (by decide) rfl hA hK hst hP hD hS (ci := 1) (q0 := 0) rfl rfl rfl rfl hl.1 rfl (Nat.le_of_ble_eq_true rfl) ⟨Nat.le_of_ble_eq_true rfl, Nat.le_of_ble_eq_true rfl⟩ ⟨by dsimp only [zR]; omega, by dsimp only [zR]; omega⟩ d_Se_endOf_2) (fun r_18 u H locs hw hP hD hS => ?_)
  have hP : va_P E.1 vwCl [(g0, .inr (4, [.ref a1, .ref a2, .int mt])), (a1, zI E n fT), (a2, zI E n fQ), (h0, .inr (1, [.ref b1, .ref b2, .ref b3, .ref b4, .int (nI jc)])), (b1, zI E 4 fS), (b2, zI E 4 fF), (b3, zI E 4 fW), (b4, zI E 4 fV)] H := hP
  have hD : va_D A [(g0, .inr (4, [.ref a1, .ref a2, .int mt])), (a1, zI E n fT), (a2, zI E n fQ), (h0, .inr (1, [.ref b1, .ref b2, .ref b3, .ref b4, .int (nI jc)])), (b1, zI E 4 fS), (b2, zI E 4 fF), (b3, zI E 4 fW), (b4, zI E 4 fV)] := hD
  subst hw
  have hP := hP.sub (ws' := [(h0, .inr (1, [.ref b1, .ref b2, .ref b3, .ref b4, .int (nI jc)])), (b1, zI E 4 fS), (b2, zI E 4 fF), (b3, zI E 4 fW), (b4, zI E 4 fV), (g0, .inr (4, [.ref a1, .ref a2, .int mt])), (a1, zI E n fT), (a2, zI E n fQ)]) [3, 4, 5, 6, 7, 0, 1, 2] rfl
  have hD := hD.sub (ws' := [(h0, .inr (1, [.ref b1, .ref b2, .ref b3, .ref b4, .int (nI jc)])), (b1, zI E 4 fS), (b2, zI E 4 fF), (b3, zI E 4 fW), (b4, zI E 4 fV), (g0, .inr (4, [.ref a1, .ref a2, .int mt])), (a1, zI E n fT), (a2, zI E n fQ)]) [3, 4, 5, 6, 7, 0, 1, 2] (by decide) rfl
  have hp4 := jg_pow hJ.1
  refine zz_gov (wr := [(h0, .inr (1, [.ref b1, .ref b2, .ref b3, .ref b4, .int (nI jc)])), (b1, zI E 4 fS), (b2, zI E 4 fF), (b3, zI E 4 fW), (b4, zI E 4 fV)]) [5, 6, 7] [0, 1, 2, 3, 4] rfl rfl (by decide) (by decide) hA hP hD hS (zz_runV (wc := [(g0, .inr (4, [.ref a1, .ref a2, .int mt])), (a1, zI E n fT), (a2, zI E n fQ)]) (As := [.int (nI (10 ^ jc))]) (rest := []) C (c_Se_makeRoom_new l E g0 a1 a2 n (10 ^ jc) fT fQ mt hnc hp4) ym_Se_makeRoom wd_ml_Se_24 wd_im_Se_makeRoom wd_se_Se_makeRoom [5, 6, 7] (by decide) rfl hA hK hst hP hD hS (ci := 4) (q0 := 0) rfl rfl rfl rfl hl.1 rfl (Nat.le_of_ble_eq_true rfl) ⟨Nat.le_of_ble_eq_true rfl, Nat.le_of_ble_eq_true rfl⟩ ⟨by dsimp only [zR]; omega, by dsimp only [zR]; omega⟩ d_Se_endOf_5) (fun e H locs _ hP hD hS => ?_)
  have hP : va_P E.1 vwCl [(h0, .inr (1, [.ref b1, .ref b2, .ref b3, .ref b4, .int (nI jc)])), (b1, zI E 4 fS), (b2, zI E 4 fF), (b3, zI E 4 fW), (b4, zI E 4 fV), (g0, .inr (4, [.ref e.1, .ref e.2, .int mt])), (e.1, zI E (10 ^ jc) (fun _ => 0)), (e.2, zI E (10 ^ jc) (fun _ => 0))] H := hP
  have hD : va_D A [(h0, .inr (1, [.ref b1, .ref b2, .ref b3, .ref b4, .int (nI jc)])), (b1, zI E 4 fS), (b2, zI E 4 fF), (b3, zI E 4 fW), (b4, zI E 4 fV), (g0, .inr (4, [.ref e.1, .ref e.2, .int mt])), (e.1, zI E (10 ^ jc) (fun _ => 0)), (e.2, zI E (10 ^ jc) (fun _ => 0))] := hD
  obtain ⟨e1, e2⟩ := e
  have hP : va_P E.1 vwCl [(h0, .inr (1, [.ref b1, .ref b2, .ref b3, .ref b4, .int (nI jc)])), (b1, zI E 4 fS), (b2, zI E 4 fF), (b3, zI E 4 fW), (b4, zI E 4 fV), (g0, .inr (4, [.ref e1, .ref e2, .int mt])), (e1, zI E (10 ^ jc) (fun _ => 0)), (e2, zI E (10 ^ jc) (fun _ => 0))] H := hP
  have hD : va_D A [(h0, .inr (1, [.ref b1, .ref b2, .ref b3, .ref b4, .int (nI jc)])), (b1, zI E 4 fS), (b2, zI E 4 fF), (b3, zI E 4 fW), (b4, zI E 4 fV), (g0, .inr (4, [.ref e1, .ref e2, .int mt])), (e1, zI E (10 ^ jc) (fun _ => 0)), (e2, zI E (10 ^ jc) (fun _ => 0))] := hD
  refine lv_aload_n hx hb d_Se_endOf_8 rfl (lv_at hl 0 rfl) ?_
  refine zz_get C hK hP fl_Se_11 5 rfl rfl d_Se_endOf_9 ?_
  refine lv_iconst (v := 0) hx hb d_Se_endOf_12 (by decide) ?_
  refine zz_gov (wr := [(h0, .inr (1, [.ref b1, .ref b2, .ref b3, .ref b4, .int (nI jc)])), (b1, zI E 4 fS), (b2, zI E 4 fF), (b3, zI E 4 fW), (b4, zI E 4 fV), (g0, .inr (4, [.ref e1, .ref e2, .int mt])), (e2, zI E (10 ^ jc) (fun _ => 0))]) [6] [0, 1, 2, 3, 4, 5, 7] rfl rfl (by decide) (by decide) hA hP hD hS (zz_runS (wc := [(e1, zI E (10 ^ jc) (fun _ => 0))]) (As := [.ref e1, .int 0]) (rest := []) C (c_Ar_fill l E e1 (10 ^ jc) (fun _ => 0) 0 hp4) ym_Ar_fill wd_ml_Se_28 wd_st_Ar_fill [6] (by decide) rfl hA hK hst hP hD hS rfl hl.1 rfl (Nat.le_of_ble_eq_true rfl) ⟨Nat.le_of_ble_eq_true rfl, Nat.le_of_ble_eq_true rfl⟩ ⟨by dsimp only [zR]; omega, by dsimp only [zR]; omega⟩ d_Se_endOf_13) (fun u3 H locs hz3 hP hD hS => ?_)
  have hP : va_P E.1 vwCl [(h0, .inr (1, [.ref b1, .ref b2, .ref b3, .ref b4, .int (nI jc)])), (b1, zI E 4 fS), (b2, zI E 4 fF), (b3, zI E 4 fW), (b4, zI E 4 fV), (g0, .inr (4, [.ref e1, .ref e2, .int mt])), (e2, zI E (10 ^ jc) (fun _ => 0)), (e1, zI E (10 ^ jc) u3)] H := hP
  have hD : va_D A [(h0, .inr (1, [.ref b1, .ref b2, .ref b3, .ref b4, .int (nI jc)])), (b1, zI E 4 fS), (b2, zI E 4 fF), (b3, zI E 4 fW), (b4, zI E 4 fV), (g0, .inr (4, [.ref e1, .ref e2, .int mt])), (e2, zI E (10 ^ jc) (fun _ => 0)), (e1, zI E (10 ^ jc) u3)] := hD
  have hP := hP.sub (ws' := [(h0, .inr (1, [.ref b1, .ref b2, .ref b3, .ref b4, .int (nI jc)])), (b1, zI E 4 fS), (b2, zI E 4 fF), (b3, zI E 4 fW), (b4, zI E 4 fV), (g0, .inr (4, [.ref e1, .ref e2, .int mt])), (e1, zI E (10 ^ jc) u3), (e2, zI E (10 ^ jc) (fun _ => 0))]) [0, 1, 2, 3, 4, 5, 7, 6] rfl
  have hD := hD.sub (ws' := [(h0, .inr (1, [.ref b1, .ref b2, .ref b3, .ref b4, .int (nI jc)])), (b1, zI E 4 fS), (b2, zI E 4 fF), (b3, zI E 4 fW), (b4, zI E 4 fV), (g0, .inr (4, [.ref e1, .ref e2, .int mt])), (e1, zI E (10 ^ jc) u3), (e2, zI E (10 ^ jc) (fun _ => 0))]) [0, 1, 2, 3, 4, 5, 7, 6] (by decide) rfl
  refine lv_aload_n hx hb d_Se_endOf_16 rfl (lv_at hl 0 rfl) ?_
  refine lv_iconst (v := 0) hx hb d_Se_endOf_17 (by decide) ?_
  refine zz_put C hK hP hD hS fl_Se_34 5 rfl rfl rfl (Nat.le_of_ble_eq_true rfl) d_Se_endOf_18 (fun H locs hP hD hS => ?_)
  have hP : va_P E.1 vwCl [(h0, .inr (1, [.ref b1, .ref b2, .ref b3, .ref b4, .int (nI jc)])), (b1, zI E 4 fS), (b2, zI E 4 fF), (b3, zI E 4 fW), (b4, zI E 4 fV), (g0, .inr (4, [.ref e1, .ref e2, .int 0])), (e1, zI E (10 ^ jc) u3), (e2, zI E (10 ^ jc) (fun _ => 0))] H := hP
  have hD : va_D A [(h0, .inr (1, [.ref b1, .ref b2, .ref b3, .ref b4, .int (nI jc)])), (b1, zI E 4 fS), (b2, zI E 4 fF), (b3, zI E 4 fW), (b4, zI E 4 fV), (g0, .inr (4, [.ref e1, .ref e2, .int 0])), (e1, zI E (10 ^ jc) u3), (e2, zI E (10 ^ jc) (fun _ => 0))] := hD
  refine lv_aload_n hx hb d_Se_endOf_21 rfl (lv_at hl 1 rfl) ?_
  refine zz_goi (wr := [(g0, .inr (4, [.ref e1, .ref e2, .int 0])), (e1, zI E (10 ^ jc) u3), (e2, zI E (10 ^ jc) (fun _ => 0))]) [0, 1, 2, 3, 4] [5, 6, 7] rfl rfl (by decide) (by decide) hA hP hD hS (zz_runA (wc := [(h0, .inr (1, [.ref b1, .ref b2, .ref b3, .ref b4, .int (nI jc)])), (b1, zI E 4 fS), (b2, zI E 4 fF), (b3, zI E 4 fW), (b4, zI E 4 fV)]) (As := []) (rest := []) C (c_Js_startState l E h0 b1 b2 b3 b4 jc fS fF fW fV sz fl hJ) ym_Js_startState wd_ml_Se_38 wd_sm_startState wd_se_Js_startState wd_im_Js_startState wd_de_startState (by decide +kernel) [0, 1, 2, 3, 4] (by decide) rfl hA hK hst hP hD hS (ci := 1) (q0 := 0) rfl rfl rfl rfl hl.1 rfl (Nat.le_of_ble_eq_true rfl) ⟨Nat.le_of_ble_eq_true rfl, Nat.le_of_ble_eq_true rfl⟩ ⟨by dsimp only [zR]; omega, by dsimp only [zR]; omega⟩ d_Se_endOf_22) (fun r_21 u H locs hw hP hD hS => ?_)
  have hP : va_P E.1 vwCl [(g0, .inr (4, [.ref e1, .ref e2, .int 0])), (e1, zI E (10 ^ jc) u3), (e2, zI E (10 ^ jc) (fun _ => 0)), (h0, .inr (1, [.ref b1, .ref b2, .ref b3, .ref b4, .int (nI jc)])), (b1, zI E 4 fS), (b2, zI E 4 fF), (b3, zI E 4 fW), (b4, zI E 4 fV)] H := hP
  have hD : va_D A [(g0, .inr (4, [.ref e1, .ref e2, .int 0])), (e1, zI E (10 ^ jc) u3), (e2, zI E (10 ^ jc) (fun _ => 0)), (h0, .inr (1, [.ref b1, .ref b2, .ref b3, .ref b4, .int (nI jc)])), (b1, zI E 4 fS), (b2, zI E 4 fF), (b3, zI E 4 fW), (b4, zI E 4 fV)] := hD
  subst hw
  have hP := hP.sub (ws' := [(h0, .inr (1, [.ref b1, .ref b2, .ref b3, .ref b4, .int (nI jc)])), (b1, zI E 4 fS), (b2, zI E 4 fF), (b3, zI E 4 fW), (b4, zI E 4 fV), (g0, .inr (4, [.ref e1, .ref e2, .int 0])), (e1, zI E (10 ^ jc) u3), (e2, zI E (10 ^ jc) (fun _ => 0))]) [3, 4, 5, 6, 7, 0, 1, 2] rfl
  have hD := hD.sub (ws' := [(h0, .inr (1, [.ref b1, .ref b2, .ref b3, .ref b4, .int (nI jc)])), (b1, zI E 4 fS), (b2, zI E 4 fF), (b3, zI E 4 fW), (b4, zI E 4 fV), (g0, .inr (4, [.ref e1, .ref e2, .int 0])), (e1, zI E (10 ^ jc) u3), (e2, zI E (10 ^ jc) (fun _ => 0))]) [3, 4, 5, 6, 7, 0, 1, 2] (by decide) rfl
  have hP : va_P E.1 vwCl [(h0, .inr (1, [.ref b1, .ref b2, .ref b3, .ref b4, .int (nI jc)])), (b1, zI E 4 fS), (b2, zI E 4 fF), (b3, zI E 4 fW), (b4, zI E 4 fV), (g0, .inr (4, [.ref e1, .ref e2, .int (nI bfs_0.2.length)])), (e1, zI E (10 ^ jc) u3), (e2, zI E (10 ^ jc) (fun _ => 0))] H := hP
  have hD : va_D A [(h0, .inr (1, [.ref b1, .ref b2, .ref b3, .ref b4, .int (nI jc)])), (b1, zI E 4 fS), (b2, zI E 4 fF), (b3, zI E 4 fW), (b4, zI E 4 fV), (g0, .inr (4, [.ref e1, .ref e2, .int (nI bfs_0.2.length)])), (e1, zI E (10 ^ jc) u3), (e2, zI E (10 ^ jc) (fun _ => 0))] := hD
  have hsP : (jg_good jc sz) (jg_sum fl jc) := jg_sum_good hJ
  refine lv_istore_n (lv' := [(2, .int (nI (jg_sum fl jc))), (0, .ref g0), (1, .ref h0)]) hx hb d_Se_endOf_25 rfl hl (by decide) rfl (fun ls hl => ?_)
  refine lv_aload_n hx hb d_Se_endOf_26 rfl (lv_at hl 1 rfl) ?_
  refine lv_iload_n hx hb d_Se_endOf_27 rfl (lv_at hl 0 rfl) ?_
  refine lv_iload_n hx hb d_Se_endOf_28 rfl (lv_at hl 0 rfl) ?_
  refine lv_iconst (v := 0) hx hb d_Se_endOf_29 (by decide) ?_
  refine zz_eqi (y := nI 0) rfl ?_
  refine zz_gov (wr := [(h0, .inr (1, [.ref b1, .ref b2, .ref b3, .ref b4, .int (nI jc)])), (b1, zI E 4 fS), (b2, zI E 4 fF), (b3, zI E 4 fW), (b4, zI E 4 fV)]) [5, 6, 7] [0, 1, 2, 3, 4] rfl rfl (by decide) (by decide) hA hP hD hS (zz_runV (wc := [(g0, .inr (4, [.ref e1, .ref e2, .int (nI bfs_0.2.length)])), (e1, zI E (10 ^ jc) u3), (e2, zI E (10 ^ jc) (fun _ => 0))]) (As := [.int (nI (jg_sum fl jc)), .int (nI (jg_sum fl jc)), .int (nI 0)]) (rest := []) C (c_Se_meet l E g0 e1 e2 (10 ^ jc) u3 (fun _ => 0) bfs_0 (jg_sum fl jc) (jg_sum fl jc) 0 hp4 (Nat.lt_of_lt_of_le hsP.1 (Nat.le_refl _)) (Nat.lt_of_lt_of_le hsP.1 (Nat.le_refl _)) (by decide) (bfs_0_RS hz3) (bfs_0_WF _)) ym_Se_meet wd_ml_Se_41 wd_im_Se_meet wd_se_Se_meet [5, 6, 7] (by decide) rfl hA hK hst hP hD hS (ci := 4) (q0 := 0) rfl rfl rfl rfl hl.1 rfl (Nat.le_of_ble_eq_true rfl) ⟨Nat.le_of_ble_eq_true rfl, Nat.le_of_ble_eq_true rfl⟩ ⟨by dsimp only [zR]; omega, by dsimp only [zR]; omega⟩ d_Se_endOf_30) (fun u4 H locs hR4 hP hD hS => ?_)
  have hP : va_P E.1 vwCl [(h0, .inr (1, [.ref b1, .ref b2, .ref b3, .ref b4, .int (nI jc)])), (b1, zI E 4 fS), (b2, zI E 4 fF), (b3, zI E 4 fW), (b4, zI E 4 fV), (g0, .inr (4, [.ref e1, .ref e2, .int (nI (bfs_mt bfs_0 (jg_sum fl jc) (jg_sum fl jc, 0)).2.length)])), (e1, zI E (10 ^ jc) u4.1), (e2, zI E (10 ^ jc) u4.2)] H := hP
  have hD : va_D A [(h0, .inr (1, [.ref b1, .ref b2, .ref b3, .ref b4, .int (nI jc)])), (b1, zI E 4 fS), (b2, zI E 4 fF), (b3, zI E 4 fW), (b4, zI E 4 fV), (g0, .inr (4, [.ref e1, .ref e2, .int (nI (bfs_mt bfs_0 (jg_sum fl jc) (jg_sum fl jc, 0)).2.length)])), (e1, zI E (10 ^ jc) u4.1), (e2, zI E (10 ^ jc) u4.2)] := hD
  refine lv_iconst (v := 0) hx hb d_Se_endOf_33 (by decide) ?_
  refine lv_istore_n (lv' := [(3, .int 0), (2, .int (nI (jg_sum fl jc))), (0, .ref g0), (1, .ref h0)]) hx hb d_Se_endOf_34 rfl hl (by decide) rfl (fun ls hl => ?_)
  have hl := lv_sub (l' := [(0, .ref g0), (1, .ref h0), (2, .int (nI (jg_sum fl jc))), (3, .int (nI 0))]) hl [2, 3, 1, 0] (rfl)
  refine W.widen (k := 2) (n := 10 ^ jc + 10 ^ jc) (by omega) (by omega) ?_
  exact lp_Se_endOf_Jn hJ hp4 (Nat.le_refl _) C hA hK hst 10000 0 fV u4.1 u4.2 (bfs_mt bfs_0 (jg_sum fl jc) (jg_sum fl jc, 0)) (by omega) rfl hR4 (bfs_st_J hp4 (Nat.lt_of_lt_of_le hsP.1 (Nat.le_refl _)) hsP) _ _ ls hP hD hS hl

set_option maxHeartbeats 4000000 in
set_option maxRecDepth 100000 in
theorem lp_Se_endOf_R {p : Program} {l : Launch} {e : Env} {s : State} {m : MethodId} {below : List Frame} {meth : Method} {c : Code} {A : Nat → Prop}  {E : zG} {h0 c1 c2 tn bt : Nat} {fL fN : Nat → Int32} {nw : Nat → Nat} {g0 a1 a2 n : Nat} (ht : tn ≤ 8) (hbt : bt ≤ 3) (hN : ∀ j, j < 8 → fN j = nI (nw j) ∧ nw j < 256) (hn : n ≤ 10000) (hnc : 512 ≤ n) (C : cx p s m #[.ref g0, .ref h0] meth c b_Se_endOf 5 y_Se_endOf.cls (some .int)) (hA : ∀ q, s.heap.size ≤ q → A q) (hK : kt E s) (hst : stt A s s.heap) :
    ∀ (f hd : Nat) (fT fQ : Nat → Int32) (S : (Nat → Nat) × List Nat) (_ : hd + f = 10000) (_ : bfs_run (rv_dn tn) (rv_next tn nw bt) f hd S = rv_RUN tn nw bt) (_ : bfs_RS n S fT fQ) (_ : bfs_J n (fun y => y < 512) S) (H : Heap) (locs : List Loc) (ls : Array Slot), va_P E.1 vwCl [(h0, .inr (2, [.ref c1, .ref c2, .int (nI tn), .int (nI bt)])), (c1, zI E 8 fL), (c2, zI E 8 fN), (g0, .inr (4, [.ref a1, .ref a2, .int (nI S.2.length)])), (a1, zI E n fT), (a2, zI E n fQ)] H → va_D A [(h0, .inr (2, [.ref c1, .ref c2, .int (nI tn), .int (nI bt)])), (c1, zI E 8 fL), (c2, zI E 8 fN), (g0, .inr (4, [.ref a1, .ref a2, .int (nI S.2.length)])), (a1, zI E n fT), (a2, zI E n fQ)] → va_S A s.heap H locs → lv_has ls 5 [(0, .ref g0), (1, .ref h0), (2, .int (nI (0))), (3, .int (nI hd))] → W p l e (zR 2 51 0 0) s m #[.ref g0, .ref h0] below meth c H locs 0 0 (MQ below ((zQi E (S := (Nat → Int32) × (Nat → Int32) × (Nat → Int32) × Nat × Nat) (fun r u => r = bfs_o (rv_RUN tn nw bt).1 ∧ bfs_RS n (rv_RUN tn nw bt).2 u.2.1 u.2.2.1 ∧ u.2.2.2.1 = a1 ∧ u.2.2.2.2 = a2) (fun u => [(h0, .inr (2, [.ref c1, .ref c2, .int (nI tn), .int (nI bt)])), (c1, zI E 8 fL), (c2, zI E 8 fN), (g0, .inr (4, [.ref u.2.2.2.1, .ref u.2.2.2.2, .int (nI ((rv_RUN tn nw bt).2).2.length)])), (u.2.2.2.1, zI E n u.2.1), (u.2.2.2.2, zI E n u.2.2.1)])) A) #[.ref g0, .ref h0] s 0 0 A) (F0 m 35 ls []) := by
  obtain ⟨hx, hb, hr, hml, hown, hts, hlk⟩ := id C
  intro f
  induction f with
  | zero =>
    intro hd fT fQ S hi hgo hR hJS H locs ls hP hD hS hl
    have hi : hd = 10000 := by omega
    subst hi
    refine lv_iload_n hx hb d_Se_endOf_35 rfl (lv_at hl 3 rfl) ?_
    refine lv_sipush (v := 10000) hx hb d_Se_endOf_36 (by decide) ?_
    refine lv_icmp_ge (tgt := 94) hx hb d_Se_endOf_39 (by decide) (fun c_23 => ?_) (fun c_23 => ?_)
    · refine lv_iconst (v := (-1)) hx hb d_Se_endOf_94 (by decide) ?_
      have p1 : (-1 : Int32) = bfs_o (bfs_run (rv_dn tn) (rv_next tn nw bt) 0 10000 S).1 := rfl
      have p2 : S = (bfs_run (rv_dn tn) (rv_next tn nw bt) 0 10000 S).2 := rfl
      have eS : S = (rv_RUN tn nw bt).2 := by rw [← hgo]; exact p2
      have hP : va_P E.1 vwCl [(h0, .inr (2, [.ref c1, .ref c2, .int (nI tn), .int (nI bt)])), (c1, zI E 8 fL), (c2, zI E 8 fN), (g0, .inr (4, [.ref a1, .ref a2, .int (nI ((rv_RUN tn nw bt).2).2.length)])), (a1, zI E n fT), (a2, zI E n fQ)] H := by rw [← eS]; exact hP
      have hD : va_D A [(h0, .inr (2, [.ref c1, .ref c2, .int (nI tn), .int (nI bt)])), (c1, zI E 8 fL), (c2, zI E 8 fN), (g0, .inr (4, [.ref a1, .ref a2, .int (nI ((rv_RUN tn nw bt).2).2.length)])), (a1, zI E n fT), (a2, zI E n fQ)] := by rw [← eS]; exact hD
      exact zz_reti C (rfl) hS (fun _ => 0, fT, fQ, a1, a2) (⟨by rw [← hgo]; exact p1, by rw [← eS]; exact hR, rfl, rfl⟩) hP hD d_Se_endOf_95
    · exact absurd (nI_le (b := 10000) (Nat.le_refl _) (by decide)) c_23
  | succ f ih =>
    intro hd fT fQ S hi hgo hR hJS H locs ls hP hD hS hl
    have hlen := bfs_le hJS.1
    refine lv_iload_n hx hb d_Se_endOf_35 rfl (lv_at hl 3 rfl) ?_
    refine lv_sipush (v := 10000) hx hb d_Se_endOf_36 (by decide) ?_
    refine lv_icmp_ge (tgt := 94) hx hb d_Se_endOf_39 (by decide) (fun c_24 => ?_) (fun c_24 => ?_)
    · exact absurd c_24 (nI_ge (b := 10000) (by omega) (by decide))
    · refine lv_iload_n hx hb d_Se_endOf_42 rfl (lv_at hl 3 rfl) ?_
      refine lv_aload_n hx hb d_Se_endOf_43 rfl (lv_at hl 0 rfl) ?_
      refine zz_get C hK hP fl_Se_34 3 rfl rfl d_Se_endOf_44 ?_
      refine lv_icmp_ge (tgt := 59) hx hb d_Se_endOf_47 (by decide) (fun c_25 => ?_) (fun c_25 => ?_)
      · have hge : ¬ hd < S.2.length := fun z => absurd c_25 (nI_ge z (by omega))
        have hrf : bfs_run (rv_dn tn) (rv_next tn nw bt) (f + 1) hd S = (none, S) := by rw [bfs_run, if_neg hge]
        have p1 : (-1 : Int32) = bfs_o (bfs_run (rv_dn tn) (rv_next tn nw bt) (f + 1) hd S).1 := by rw [hrf]; rfl
        have p2 : S = (bfs_run (rv_dn tn) (rv_next tn nw bt) (f + 1) hd S).2 := by rw [hrf]
        refine lv_iconst (v := (-1)) hx hb d_Se_endOf_59 (by decide) ?_
        have eS : S = (rv_RUN tn nw bt).2 := by rw [← hgo]; exact p2
        have hP : va_P E.1 vwCl [(h0, .inr (2, [.ref c1, .ref c2, .int (nI tn), .int (nI bt)])), (c1, zI E 8 fL), (c2, zI E 8 fN), (g0, .inr (4, [.ref a1, .ref a2, .int (nI ((rv_RUN tn nw bt).2).2.length)])), (a1, zI E n fT), (a2, zI E n fQ)] H := by rw [← eS]; exact hP
        have hD : va_D A [(h0, .inr (2, [.ref c1, .ref c2, .int (nI tn), .int (nI bt)])), (c1, zI E 8 fL), (c2, zI E 8 fN), (g0, .inr (4, [.ref a1, .ref a2, .int (nI ((rv_RUN tn nw bt).2).2.length)])), (a1, zI E n fT), (a2, zI E n fQ)] := by rw [← eS]; exact hD
        exact zz_reti C (rfl) hS (fun _ => 0, fT, fQ, a1, a2) (⟨by rw [← hgo]; exact p1, by rw [← eS]; exact hR, rfl, rfl⟩) hP hD d_Se_endOf_60
      · have hlt : hd < S.2.length := zz_ltc c_25 (by omega)
        refine lv_iload_n hx hb d_Se_endOf_50 rfl (lv_at hl 3 rfl) ?_
        refine lv_aload_n hx hb d_Se_endOf_51 rfl (lv_at hl 0 rfl) ?_
        refine zz_get C hK hP fl_Se_15 3 rfl rfl d_Se_endOf_52 ?_
        refine zz_alenI C hK hP 5 rfl d_Se_endOf_55 ?_
        refine lv_icmp_lt (tgt := 61) hx hb d_Se_endOf_56 (by decide) (fun c_26 => ?_) (fun c_26 => ?_)
        · obtain ⟨x, hxe⟩ : ∃ x, x = S.2.getD hd 0 := ⟨_, rfl⟩
          have hxm : x ∈ S.2 := by rw [hxe]; exact bfs_getD hlt
          have hxP : (fun y => y < 512) x := hJS.2 x hxm
          have hxn := (hJS.1.1 x hxm).1
          have hxz := (hJS.1.1 x hxm).2
          refine lv_aload_n hx hb d_Se_endOf_61 rfl (lv_at hl 0 rfl) ?_
          refine zz_get C hK hP fl_Se_15 3 rfl rfl d_Se_endOf_62 ?_
          refine lv_iload_n hx hb d_Se_endOf_65 rfl (lv_at hl 3 rfl) ?_
          refine zz_ialdN C hK hP 5 rfl (j := hd) (Nat.lt_of_lt_of_le hlt hlen) (by omega) d_Se_endOf_66 ?_
          refine zz_eqi (y := nI x) (by rw [hxe]; exact hR.2 hd hlt) ?_
          refine lv_istore (lv' := [(4, .int (nI x)), (0, .ref g0), (1, .ref h0), (2, .int (nI (0))), (3, .int (nI hd))]) hx hb d_Se_endOf_67 hl (by decide) rfl (fun ls hl => ?_)
          refine lv_aload_n hx hb d_Se_endOf_69 rfl (lv_at hl 2 rfl) ?_
          refine lv_iload hx hb d_Se_endOf_70 (lv_at hl 0 rfl) ?_
          have hx5 : x < 512 := hxP
          refine zz_goi (wr := [(g0, .inr (4, [.ref a1, .ref a2, .int (nI S.2.length)])), (a1, zI E n fT), (a2, zI E n fQ)]) [0, 1, 2] [3, 4, 5] rfl rfl (by decide) (by decide) hA hP hD hS (zz_runA (wc := [(h0, .inr (2, [.ref c1, .ref c2, .int (nI tn), .int (nI bt)])), (c1, zI E 8 fL), (c2, zI E 8 fN)]) (As := [.int (nI x)]) (rest := []) C (c_Rv_isDone l E h0 c1 c2 tn fL fN (nI bt) x ht) ym_Rv_isDone wd_ml_Se_45 wd_sm_isDone wd_se_Rv_isDone wd_im_Rv_isDone wd_de_isDone (by decide +kernel) [0, 1, 2] (by decide) rfl hA hK hst hP hD hS (ci := 2) (q0 := 0) rfl rfl rfl rfl hl.1 rfl (Nat.le_of_ble_eq_true rfl) ⟨Nat.le_of_ble_eq_true rfl, Nat.le_of_ble_eq_true rfl⟩ ⟨Nat.le_of_ble_eq_true rfl, Nat.le_of_ble_eq_true rfl⟩ d_Se_endOf_72) (fun r1 u H locs hw1 hP hD hS => ?_)
          have hP : va_P E.1 vwCl [(g0, .inr (4, [.ref a1, .ref a2, .int (nI S.2.length)])), (a1, zI E n fT), (a2, zI E n fQ), (h0, .inr (2, [.ref c1, .ref c2, .int (nI tn), .int (nI bt)])), (c1, zI E 8 fL), (c2, zI E 8 fN)] H := hP
          have hD : va_D A [(g0, .inr (4, [.ref a1, .ref a2, .int (nI S.2.length)])), (a1, zI E n fT), (a2, zI E n fQ), (h0, .inr (2, [.ref c1, .ref c2, .int (nI tn), .int (nI bt)])), (c1, zI E 8 fL), (c2, zI E 8 fN)] := hD
          have hd1 : (rv_dn tn x = true → r1 = 1) ∧ (¬ rv_dn tn x = true → r1 = 0) := ⟨fun h => hw1.1 (of_decide_eq_true h), fun h => hw1.2 (fun z => h (decide_eq_true z))⟩
          have hP := hP.sub (ws' := [(h0, .inr (2, [.ref c1, .ref c2, .int (nI tn), .int (nI bt)])), (c1, zI E 8 fL), (c2, zI E 8 fN), (g0, .inr (4, [.ref a1, .ref a2, .int (nI S.2.length)])), (a1, zI E n fT), (a2, zI E n fQ)]) [3, 4, 5, 0, 1, 2] rfl
          have hD := hD.sub (ws' := [(h0, .inr (2, [.ref c1, .ref c2, .int (nI tn), .int (nI bt)])), (c1, zI E 8 fL), (c2, zI E 8 fN), (g0, .inr (4, [.ref a1, .ref a2, .int (nI S.2.length)])), (a1, zI E n fT), (a2, zI E n fQ)]) [3, 4, 5, 0, 1, 2] (by decide) rfl
          refine lv_if_eq (tgt := 81) hx hb d_Se_endOf_75 (by decide) (fun c_27 => ?_) (fun c_27 => ?_)
          · have hdn : ¬ (rv_dn tn) x = true := fun h => absurd ((hd1.1 h).symm.trans c_27) (by decide)
            have hrf : bfs_run (rv_dn tn) (rv_next tn nw bt) (f + 1) hd S = bfs_run (rv_dn tn) (rv_next tn nw bt) f (hd + 1) (rv_next tn nw bt x S) := by rw [bfs_run, if_pos hlt, ← hxe, if_neg hdn]
            refine lv_aload_n hx hb d_Se_endOf_81 rfl (lv_at hl 2 rfl) ?_
            refine lv_iload hx hb d_Se_endOf_82 (lv_at hl 0 rfl) ?_
            refine lv_aload_n hx hb d_Se_endOf_84 rfl (lv_at hl 1 rfl) ?_
            refine zz_gov (wr := []) [0, 1, 2, 3, 4, 5] [] rfl rfl (by decide) (by decide) hA hP hD hS (zz_runA (wc := [(h0, .inr (2, [.ref c1, .ref c2, .int (nI tn), .int (nI bt)])), (c1, zI E 8 fL), (c2, zI E 8 fN), (g0, .inr (4, [.ref a1, .ref a2, .int (nI S.2.length)])), (a1, zI E n fT), (a2, zI E n fQ)]) (As := [.int (nI x), .ref g0]) (rest := []) C (c_Rv_meetNext l E h0 c1 c2 tn bt fL fN nw g0 a1 a2 n fT fQ S x ht hbt hN hx5 hn hnc hR ⟨hJS.1, hxz⟩) ym_Rv_meetNext wd_ml_Se_49 wd_sm_meetNext wd_se_Rv_meetNext wd_im_Rv_meetNext wd_de_meetNext (by decide +kernel) [0, 1, 2, 3, 4, 5] (by decide) rfl hA hK hst hP hD hS (ci := 2) (q0 := 0) rfl rfl rfl rfl hl.1 rfl (Nat.le_of_ble_eq_true rfl) ⟨Nat.le_of_ble_eq_true rfl, Nat.le_of_ble_eq_true rfl⟩ ⟨Nat.le_of_ble_eq_true rfl, Nat.le_of_ble_eq_true rfl⟩ d_Se_endOf_85) (fun u2 H locs hR hP hD hS => ?_)
            have hP : va_P E.1 vwCl [(h0, .inr (2, [.ref c1, .ref c2, .int (nI tn), .int (nI bt)])), (c1, zI E 8 fL), (c2, zI E 8 fN), (g0, .inr (4, [.ref a1, .ref a2, .int (nI (rv_next tn nw bt x S).2.length)])), (a1, zI E n u2.1), (a2, zI E n u2.2)] H := hP
            have hD : va_D A [(h0, .inr (2, [.ref c1, .ref c2, .int (nI tn), .int (nI bt)])), (c1, zI E 8 fL), (c2, zI E 8 fN), (g0, .inr (4, [.ref a1, .ref a2, .int (nI (rv_next tn nw bt x S).2.length)])), (a1, zI E n u2.1), (a2, zI E n u2.2)] := hD
            have hJ2 := rv_next_J (bt := bt) (nw := nw) ht hx5 hn hnc ⟨hJS, hxz⟩
            refine lv_iinc (v := nI (hd + 1)) (lv' := [(3, .int (nI (hd + 1))), (4, .int (nI x)), (0, .ref g0), (1, .ref h0), (2, .int (nI (0)))]) hx hb d_Se_endOf_88 hl (k := 4) rfl (nI_1 _) (by decide) rfl (fun ls hl => ?_)
            refine lv_goto (tgt := 35) hx hb d_Se_endOf_91 (by decide) ?_
            exact ih (hd + 1) u2.1 u2.2 (rv_next tn nw bt x S) (by omega) (by rw [← hgo, hrf]) hR hJ2.1 _ _ ls hP hD hS (lv_sub hl [2, 3, 4, 0] rfl)
          · have hdn : (rv_dn tn) x = true := Classical.byContradiction (fun h => c_27 (hd1.2 h))
            have hrf : bfs_run (rv_dn tn) (rv_next tn nw bt) (f + 1) hd S = (some x, S) := by rw [bfs_run, if_pos hlt, ← hxe, if_pos hdn]
            have p1 : nI x = bfs_o (bfs_run (rv_dn tn) (rv_next tn nw bt) (f + 1) hd S).1 := by rw [hrf]; rfl
            have p2 : S = (bfs_run (rv_dn tn) (rv_next tn nw bt) (f + 1) hd S).2 := by rw [hrf]
            refine lv_iload hx hb d_Se_endOf_78 (lv_at hl 0 rfl) ?_
            have eS : S = (rv_RUN tn nw bt).2 := by rw [← hgo]; exact p2
            have hP : va_P E.1 vwCl [(h0, .inr (2, [.ref c1, .ref c2, .int (nI tn), .int (nI bt)])), (c1, zI E 8 fL), (c2, zI E 8 fN), (g0, .inr (4, [.ref a1, .ref a2, .int (nI ((rv_RUN tn nw bt).2).2.length)])), (a1, zI E n fT), (a2, zI E n fQ)] H := by rw [← eS]; exact hP
            have hD : va_D A [(h0, .inr (2, [.ref c1, .ref c2, .int (nI tn), .int (nI bt)])), (c1, zI E 8 fL), (c2, zI E 8 fN), (g0, .inr (4, [.ref a1, .ref a2, .int (nI ((rv_RUN tn nw bt).2).2.length)])), (a1, zI E n fT), (a2, zI E n fQ)] := by rw [← eS]; exact hD
            exact zz_reti C (rfl) hS (fun _ => 0, fT, fQ, a1, a2) (⟨by rw [← hgo]; exact p1, by rw [← eS]; exact hR, rfl, rfl⟩) hP hD d_Se_endOf_80
        · exact absurd (nI_lt (Nat.lt_of_lt_of_le hlt hlen) (by omega)) c_26

set_option maxHeartbeats 4000000 in
set_option maxRecDepth 100000 in
theorem c_Se_endOf_R (l : Launch) (E : zG) (h0 c1 c2 tn bt : Nat) (fL fN : Nat → Int32) (nw : Nat → Nat) (g0 a1 a2 n : Nat) (fT fQ : Nat → Int32) (mt : Int32) (ht : tn ≤ 8) (hbt : bt ≤ 3) (hN : ∀ j, j < 8 → fN j = nI (nw j) ∧ nw j < 256) (hn : n ≤ 10000) (hnc : 512 ≤ n) : zMet l y_Se_endOf b_Se_endOf 5 (some .int) 2 51 0 0 E [.ref g0, .ref h0] [(h0, .inr (2, [.ref c1, .ref c2, .int (nI tn), .int (nI bt)])), (c1, zI E 8 fL), (c2, zI E 8 fN), (g0, .inr (4, [.ref a1, .ref a2, .int mt])), (a1, zI E n fT), (a2, zI E n fQ)] (zQi E (S := (Nat → Int32) × (Nat → Int32) × (Nat → Int32) × Nat × Nat) (fun r u => r = bfs_o (rv_RUN tn nw bt).1 ∧ bfs_RS n (rv_RUN tn nw bt).2 u.2.1 u.2.2.1 ∧ u.2.2.2.1 = a1 ∧ u.2.2.2.2 = a2) (fun u => [(h0, .inr (2, [.ref c1, .ref c2, .int (nI tn), .int (nI bt)])), (c1, zI E 8 fL), (c2, zI E 8 fN), (g0, .inr (4, [.ref u.2.2.2.1, .ref u.2.2.2.2, .int (nI ((rv_RUN tn nw bt).2).2.length)])), (u.2.2.2.1, zI E n u.2.1), (u.2.2.2.2, zI E n u.2.2.1)])) := by
  refine zz_met (by decide +kernel) (Nat.le_of_ble_eq_true rfl) ?_
  intro p e s m below meth c A ls C hin hA hK hst hP hD hl
  obtain ⟨hx, hb, hr, hml, hown, hts, hlk⟩ := id C
  have hS : va_S A s.heap s.heap [] := va_S.rf
  have hl : lv_has ls 5 [(0, .ref g0), (1, .ref h0)] := hl
  refine lv_aload_n hx hb d_Se_endOf_0 rfl (lv_at hl 0 rfl) ?_
  refine lv_aload_n hx hb d_Se_endOf_1 rfl (lv_at hl 1 rfl) ?_
  refine zz_goi (wr := [(g0, .inr (4, [.ref a1, .ref a2, .int mt])), (a1, zI E n fT), (a2, zI E n fQ)]) [0, 1, 2] [3, 4, 5] rfl rfl (by decide) (by decide) hA hP hD hS (zz_runA (wc := [(h0, .inr (2, [.ref c1, .ref c2, .int (nI tn), .int (nI bt)])), (c1, zI E 8 fL), (c2, zI E 8 fN)]) (As := []) (rest := [.ref g0]) C (c_Rv_stateCount l E h0 c1 c2 tn fL fN (nI bt)) ym_Rv_stateCount wd_ml_Se_18 wd_sm_stateCount wd_se_Rv_stateCount wd_im_Rv_stateCount wd_de_stateCount (by decide +kernel) [0, 1, 2] (by decide) rfl hA hK hst hP hD hS (ci := 2) (q0 := 0) rfl rfl rfl rfl hl.1 rfl (Nat.le_of_ble_eq_true rfl) ⟨Nat.le_of_ble_eq_true rfl, Nat.le_of_ble_eq_true rfl⟩ ⟨Nat.le_of_ble_eq_true rfl, Nat.le_of_ble_eq_true rfl⟩ d_Se_endOf_2) (fun r_29 u H locs hw hP hD hS => ?_)
  have hP : va_P E.1 vwCl [(g0, .inr (4, [.ref a1, .ref a2, .int mt])), (a1, zI E n fT), (a2, zI E n fQ), (h0, .inr (2, [.ref c1, .ref c2, .int (nI tn), .int (nI bt)])), (c1, zI E 8 fL), (c2, zI E 8 fN)] H := hP
  have hD : va_D A [(g0, .inr (4, [.ref a1, .ref a2, .int mt])), (a1, zI E n fT), (a2, zI E n fQ), (h0, .inr (2, [.ref c1, .ref c2, .int (nI tn), .int (nI bt)])), (c1, zI E 8 fL), (c2, zI E 8 fN)] := hD
  subst hw
  have hP := hP.sub (ws' := [(h0, .inr (2, [.ref c1, .ref c2, .int (nI tn), .int (nI bt)])), (c1, zI E 8 fL), (c2, zI E 8 fN), (g0, .inr (4, [.ref a1, .ref a2, .int mt])), (a1, zI E n fT), (a2, zI E n fQ)]) [3, 4, 5, 0, 1, 2] rfl
  have hD := hD.sub (ws' := [(h0, .inr (2, [.ref c1, .ref c2, .int (nI tn), .int (nI bt)])), (c1, zI E 8 fL), (c2, zI E 8 fN), (g0, .inr (4, [.ref a1, .ref a2, .int mt])), (a1, zI E n fT), (a2, zI E n fQ)]) [3, 4, 5, 0, 1, 2] (by decide) rfl
  refine zz_gov (wr := [(h0, .inr (2, [.ref c1, .ref c2, .int (nI tn), .int (nI bt)])), (c1, zI E 8 fL), (c2, zI E 8 fN)]) [3, 4, 5] [0, 1, 2] rfl rfl (by decide) (by decide) hA hP hD hS (zz_runV (wc := [(g0, .inr (4, [.ref a1, .ref a2, .int mt])), (a1, zI E n fT), (a2, zI E n fQ)]) (As := [.int (nI (512))]) (rest := []) C (c_Se_makeRoom_keep l E g0 a1 a2 n (512) fT fQ mt hnc hn) ym_Se_makeRoom wd_ml_Se_24 wd_im_Se_makeRoom wd_se_Se_makeRoom [3, 4, 5] (by decide) rfl hA hK hst hP hD hS (ci := 4) (q0 := 0) rfl rfl rfl rfl hl.1 rfl (Nat.le_of_ble_eq_true rfl) ⟨Nat.le_of_ble_eq_true rfl, Nat.le_of_ble_eq_true rfl⟩ ⟨Nat.le_of_ble_eq_true rfl, Nat.le_of_ble_eq_true rfl⟩ d_Se_endOf_5) (fun u H locs _ hP hD hS => ?_)
  have hP : va_P E.1 vwCl [(h0, .inr (2, [.ref c1, .ref c2, .int (nI tn), .int (nI bt)])), (c1, zI E 8 fL), (c2, zI E 8 fN), (g0, .inr (4, [.ref a1, .ref a2, .int mt])), (a1, zI E n fT), (a2, zI E n fQ)] H := hP
  have hD : va_D A [(h0, .inr (2, [.ref c1, .ref c2, .int (nI tn), .int (nI bt)])), (c1, zI E 8 fL), (c2, zI E 8 fN), (g0, .inr (4, [.ref a1, .ref a2, .int mt])), (a1, zI E n fT), (a2, zI E n fQ)] := hD
  refine lv_aload_n hx hb d_Se_endOf_8 rfl (lv_at hl 0 rfl) ?_
  refine zz_get C hK hP fl_Se_11 3 rfl rfl d_Se_endOf_9 ?_
  refine lv_iconst (v := 0) hx hb d_Se_endOf_12 (by decide) ?_
  refine zz_gov (wr := [(h0, .inr (2, [.ref c1, .ref c2, .int (nI tn), .int (nI bt)])), (c1, zI E 8 fL), (c2, zI E 8 fN), (g0, .inr (4, [.ref a1, .ref a2, .int mt])), (a2, zI E n fQ)]) [4] [0, 1, 2, 3, 5] rfl rfl (by decide) (by decide) hA hP hD hS (zz_runS (wc := [(a1, zI E n fT)]) (As := [.ref a1, .int 0]) (rest := []) C (c_Ar_fill l E a1 n fT 0 hn) ym_Ar_fill wd_ml_Se_28 wd_st_Ar_fill [4] (by decide) rfl hA hK hst hP hD hS rfl hl.1 rfl (Nat.le_of_ble_eq_true rfl) ⟨Nat.le_of_ble_eq_true rfl, Nat.le_of_ble_eq_true rfl⟩ ⟨Nat.le_of_ble_eq_true rfl, Nat.le_of_ble_eq_true rfl⟩ d_Se_endOf_13) (fun u3 H locs hz3 hP hD hS => ?_)
  have hP : va_P E.1 vwCl [(h0, .inr (2, [.ref c1, .ref c2, .int (nI tn), .int (nI bt)])), (c1, zI E 8 fL), (c2, zI E 8 fN), (g0, .inr (4, [.ref a1, .ref a2, .int mt])), (a2, zI E n fQ), (a1, zI E n u3)] H := hP
  have hD : va_D A [(h0, .inr (2, [.ref c1, .ref c2, .int (nI tn), .int (nI bt)])), (c1, zI E 8 fL), (c2, zI E 8 fN), (g0, .inr (4, [.ref a1, .ref a2, .int mt])), (a2, zI E n fQ), (a1, zI E n u3)] := hD
  have hP := hP.sub (ws' := [(h0, .inr (2, [.ref c1, .ref c2, .int (nI tn), .int (nI bt)])), (c1, zI E 8 fL), (c2, zI E 8 fN), (g0, .inr (4, [.ref a1, .ref a2, .int mt])), (a1, zI E n u3), (a2, zI E n fQ)]) [0, 1, 2, 3, 5, 4] rfl
  have hD := hD.sub (ws' := [(h0, .inr (2, [.ref c1, .ref c2, .int (nI tn), .int (nI bt)])), (c1, zI E 8 fL), (c2, zI E 8 fN), (g0, .inr (4, [.ref a1, .ref a2, .int mt])), (a1, zI E n u3), (a2, zI E n fQ)]) [0, 1, 2, 3, 5, 4] (by decide) rfl
  refine lv_aload_n hx hb d_Se_endOf_16 rfl (lv_at hl 0 rfl) ?_
  refine lv_iconst (v := 0) hx hb d_Se_endOf_17 (by decide) ?_
  refine zz_put C hK hP hD hS fl_Se_34 3 rfl rfl rfl (Nat.le_of_ble_eq_true rfl) d_Se_endOf_18 (fun H locs hP hD hS => ?_)
  have hP : va_P E.1 vwCl [(h0, .inr (2, [.ref c1, .ref c2, .int (nI tn), .int (nI bt)])), (c1, zI E 8 fL), (c2, zI E 8 fN), (g0, .inr (4, [.ref a1, .ref a2, .int 0])), (a1, zI E n u3), (a2, zI E n fQ)] H := hP
  have hD : va_D A [(h0, .inr (2, [.ref c1, .ref c2, .int (nI tn), .int (nI bt)])), (c1, zI E 8 fL), (c2, zI E 8 fN), (g0, .inr (4, [.ref a1, .ref a2, .int 0])), (a1, zI E n u3), (a2, zI E n fQ)] := hD
  refine lv_aload_n hx hb d_Se_endOf_21 rfl (lv_at hl 1 rfl) ?_
  refine zz_goi (wr := [(g0, .inr (4, [.ref a1, .ref a2, .int 0])), (a1, zI E n u3), (a2, zI E n fQ)]) [0, 1, 2] [3, 4, 5] rfl rfl (by decide) (by decide) hA hP hD hS (zz_runA (wc := [(h0, .inr (2, [.ref c1, .ref c2, .int (nI tn), .int (nI bt)])), (c1, zI E 8 fL), (c2, zI E 8 fN)]) (As := []) (rest := []) C (c_Rv_startState l E h0 c1 c2 tn fL fN (nI bt)) ym_Rv_startState wd_ml_Se_38 wd_sm_startState wd_se_Rv_startState wd_im_Rv_startState wd_de_startState (by decide +kernel) [0, 1, 2] (by decide) rfl hA hK hst hP hD hS (ci := 2) (q0 := 0) rfl rfl rfl rfl hl.1 rfl (Nat.le_of_ble_eq_true rfl) ⟨Nat.le_of_ble_eq_true rfl, Nat.le_of_ble_eq_true rfl⟩ ⟨Nat.le_of_ble_eq_true rfl, Nat.le_of_ble_eq_true rfl⟩ d_Se_endOf_22) (fun r_32 u H locs hw hP hD hS => ?_)
  have hP : va_P E.1 vwCl [(g0, .inr (4, [.ref a1, .ref a2, .int 0])), (a1, zI E n u3), (a2, zI E n fQ), (h0, .inr (2, [.ref c1, .ref c2, .int (nI tn), .int (nI bt)])), (c1, zI E 8 fL), (c2, zI E 8 fN)] H := hP
  have hD : va_D A [(g0, .inr (4, [.ref a1, .ref a2, .int 0])), (a1, zI E n u3), (a2, zI E n fQ), (h0, .inr (2, [.ref c1, .ref c2, .int (nI tn), .int (nI bt)])), (c1, zI E 8 fL), (c2, zI E 8 fN)] := hD
  subst hw
  have hP := hP.sub (ws' := [(h0, .inr (2, [.ref c1, .ref c2, .int (nI tn), .int (nI bt)])), (c1, zI E 8 fL), (c2, zI E 8 fN), (g0, .inr (4, [.ref a1, .ref a2, .int 0])), (a1, zI E n u3), (a2, zI E n fQ)]) [3, 4, 5, 0, 1, 2] rfl
  have hD := hD.sub (ws' := [(h0, .inr (2, [.ref c1, .ref c2, .int (nI tn), .int (nI bt)])), (c1, zI E 8 fL), (c2, zI E 8 fN), (g0, .inr (4, [.ref a1, .ref a2, .int 0])), (a1, zI E n u3), (a2, zI E n fQ)]) [3, 4, 5, 0, 1, 2] (by decide) rfl
  have hP : va_P E.1 vwCl [(h0, .inr (2, [.ref c1, .ref c2, .int (nI tn), .int (nI bt)])), (c1, zI E 8 fL), (c2, zI E 8 fN), (g0, .inr (4, [.ref a1, .ref a2, .int (nI bfs_0.2.length)])), (a1, zI E n u3), (a2, zI E n fQ)] H := hP
  have hD : va_D A [(h0, .inr (2, [.ref c1, .ref c2, .int (nI tn), .int (nI bt)])), (c1, zI E 8 fL), (c2, zI E 8 fN), (g0, .inr (4, [.ref a1, .ref a2, .int (nI bfs_0.2.length)])), (a1, zI E n u3), (a2, zI E n fQ)] := hD
  have hsP : (fun y => y < 512) (0) := (by decide : 0 < 512)
  refine lv_istore_n (lv' := [(2, .int (nI (0))), (0, .ref g0), (1, .ref h0)]) hx hb d_Se_endOf_25 rfl hl (by decide) rfl (fun ls hl => ?_)
  refine lv_aload_n hx hb d_Se_endOf_26 rfl (lv_at hl 1 rfl) ?_
  refine lv_iload_n hx hb d_Se_endOf_27 rfl (lv_at hl 0 rfl) ?_
  refine lv_iload_n hx hb d_Se_endOf_28 rfl (lv_at hl 0 rfl) ?_
  refine lv_iconst (v := 0) hx hb d_Se_endOf_29 (by decide) ?_
  refine zz_eqi (y := nI 0) rfl ?_
  refine zz_gov (wr := [(h0, .inr (2, [.ref c1, .ref c2, .int (nI tn), .int (nI bt)])), (c1, zI E 8 fL), (c2, zI E 8 fN)]) [3, 4, 5] [0, 1, 2] rfl rfl (by decide) (by decide) hA hP hD hS (zz_runV (wc := [(g0, .inr (4, [.ref a1, .ref a2, .int (nI bfs_0.2.length)])), (a1, zI E n u3), (a2, zI E n fQ)]) (As := [.int (nI (0)), .int (nI (0)), .int (nI 0)]) (rest := []) C (c_Se_meet l E g0 a1 a2 n u3 fQ bfs_0 (0) (0) 0 hn (Nat.lt_of_lt_of_le hsP hnc) (Nat.lt_of_lt_of_le hsP hnc) (by decide) (bfs_0_RS hz3) (bfs_0_WF _)) ym_Se_meet wd_ml_Se_41 wd_im_Se_meet wd_se_Se_meet [3, 4, 5] (by decide) rfl hA hK hst hP hD hS (ci := 4) (q0 := 0) rfl rfl rfl rfl hl.1 rfl (Nat.le_of_ble_eq_true rfl) ⟨Nat.le_of_ble_eq_true rfl, Nat.le_of_ble_eq_true rfl⟩ ⟨Nat.le_of_ble_eq_true rfl, Nat.le_of_ble_eq_true rfl⟩ d_Se_endOf_30) (fun u4 H locs hR4 hP hD hS => ?_)
  have hP : va_P E.1 vwCl [(h0, .inr (2, [.ref c1, .ref c2, .int (nI tn), .int (nI bt)])), (c1, zI E 8 fL), (c2, zI E 8 fN), (g0, .inr (4, [.ref a1, .ref a2, .int (nI (bfs_mt bfs_0 (0) (0, 0)).2.length)])), (a1, zI E n u4.1), (a2, zI E n u4.2)] H := hP
  have hD : va_D A [(h0, .inr (2, [.ref c1, .ref c2, .int (nI tn), .int (nI bt)])), (c1, zI E 8 fL), (c2, zI E 8 fN), (g0, .inr (4, [.ref a1, .ref a2, .int (nI (bfs_mt bfs_0 (0) (0, 0)).2.length)])), (a1, zI E n u4.1), (a2, zI E n u4.2)] := hD
  refine lv_iconst (v := 0) hx hb d_Se_endOf_33 (by decide) ?_
  refine lv_istore_n (lv' := [(3, .int 0), (2, .int (nI (0))), (0, .ref g0), (1, .ref h0)]) hx hb d_Se_endOf_34 rfl hl (by decide) rfl (fun ls hl => ?_)
  have hl := lv_sub (l' := [(0, .ref g0), (1, .ref h0), (2, .int (nI (0))), (3, .int (nI 0))]) hl [2, 3, 1, 0] (rfl)
  exact lp_Se_endOf_R ht hbt hN hn hnc C hA hK hst 10000 0 u4.1 u4.2 (bfs_mt bfs_0 (0) (0, 0)) (by omega) rfl hR4 (bfs_st_J hn (Nat.lt_of_lt_of_le hsP hnc) hsP) _ _ ls hP hD hS hl
