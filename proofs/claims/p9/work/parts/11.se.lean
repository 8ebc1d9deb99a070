set_option maxHeartbeats 4000000 in
set_option maxRecDepth 100000 in
theorem c_Se_init (l : Launch) (E : zG) (h0 : Nat) : zMet l y_Se_init b_Se_init 1 none 1 20 2 1024 E [.ref h0] [(h0, .inr (4, [.null, .null, .int 0]))] (zQv E (S := Nat × Nat) (fun _ => True) (fun u => [(h0, .inr (4, [.ref u.1, .ref u.2, .int 0])), (u.1, zI E 512 (fun _ => 0)), (u.2, zI E 512 (fun _ => 0))])) := by
  refine zz_met (by decide +kernel) (Nat.le_of_ble_eq_true rfl) ?_
  intro p e s m below meth c A ls C hin hA hK hst hP hD hl
  obtain ⟨hx, hb, hr, hml, hown, hts, hlk⟩ := id C
  have hS : va_S A s.heap s.heap [] := va_S.rf
  have hl : lv_has ls 1 [(0, .ref h0)] := hl
  refine lv_aload_n hx hb d_Se_init_0 rfl (lv_at hl 0 rfl) ?_
  refine zz_oi C wd_ml_Se_3 wd_im_obj wd_cd_obj hl.1 (Nat.le_of_ble_eq_true rfl) (Nat.le_of_ble_eq_true rfl) d_Se_init_1 ?_
  refine lv_aload_n hx hb d_Se_init_4 rfl (lv_at hl 0 rfl) ?_
  refine lv_sipush (v := 512) hx hb d_Se_init_5 (by decide) ?_
  refine zz_eqi (show (512 : Int32) = nI 512 from rfl) ?_
  refine zz_newI C hK hP hD hS hA (by decide) wd_ac_I (Nat.le_of_ble_eq_true rfl) (Nat.le_of_ble_eq_true rfl) d_Se_init_8 (fun q_1 H hP hD hS => ?_)
  have hP : va_P E.1 vwCl [(h0, .inr (4, [.null, .null, .int 0])), (q_1, zI E 512 (fun _ => 0))] H := hP
  have hD : va_D A [(h0, .inr (4, [.null, .null, .int 0])), (q_1, zI E 512 (fun _ => 0))] := hD
  refine zz_put C hK hP hD hS fl_Se_11 0 rfl rfl rfl (Nat.le_of_ble_eq_true rfl) d_Se_init_10 (fun H locs hP hD hS => ?_)
  have hP : va_P E.1 vwCl [(h0, .inr (4, [.ref q_1, .null, .int 0])), (q_1, zI E 512 (fun _ => 0))] H := hP
  have hD : va_D A [(h0, .inr (4, [.ref q_1, .null, .int 0])), (q_1, zI E 512 (fun _ => 0))] := hD
  refine lv_aload_n hx hb d_Se_init_13 rfl (lv_at hl 0 rfl) ?_
  refine lv_sipush (v := 512) hx hb d_Se_init_14 (by decide) ?_
  refine zz_eqi (show (512 : Int32) = nI 512 from rfl) ?_
  refine zz_newI C hK hP hD hS hA (by decide) wd_ac_I (Nat.le_of_ble_eq_true rfl) (Nat.le_of_ble_eq_true rfl) d_Se_init_17 (fun q_2 H hP hD hS => ?_)
  have hP : va_P E.1 vwCl [(h0, .inr (4, [.ref q_1, .null, .int 0])), (q_1, zI E 512 (fun _ => 0)), (q_2, zI E 512 (fun _ => 0))] H := hP
  have hD : va_D A [(h0, .inr (4, [.ref q_1, .null, .int 0])), (q_1, zI E 512 (fun _ => 0)), (q_2, zI E 512 (fun _ => 0))] := hD
  refine zz_put C hK hP hD hS fl_Se_15 0 rfl rfl rfl (Nat.le_of_ble_eq_true rfl) d_Se_init_19 (fun H locs hP hD hS => ?_)
  have hP : va_P E.1 vwCl [(h0, .inr (4, [.ref q_1, .ref q_2, .int 0])), (q_1, zI E 512 (fun _ => 0)), (q_2, zI E 512 (fun _ => 0))] H := hP
  have hD : va_D A [(h0, .inr (4, [.ref q_1, .ref q_2, .int 0])), (q_1, zI E 512 (fun _ => 0)), (q_2, zI E 512 (fun _ => 0))] := hD
  exact zz_retv C hS (q_1, q_2) (trivial) hP hD d_Se_init_22

set_option maxHeartbeats 4000000 in
set_option maxRecDepth 100000 in
theorem c_Se_meet (l : Launch) (E : zG) (h0 a1 a2 n : Nat) (fT fQ : Nat → Int32) (st : (Nat → Nat) × List Nat) (a b k : Nat) (hn : n ≤ 10000) (ha : a < n) (hb0 : b < n) (hk : k < 256) (hR : bfs_RS n st fT fQ) (hWF : bfs_WF n st) : zMet l y_Se_meet b_Se_meet 4 none 0 0 0 0 E [.ref h0, .int (nI a), .int (nI b), .int (nI k)] [(h0, .inr (4, [.ref a1, .ref a2, .int (nI st.2.length)])), (a1, zI E n fT), (a2, zI E n fQ)] (zQv E (S := (Nat → Int32) × (Nat → Int32)) (fun u => bfs_RS n (bfs_mt st b (a, k)) u.1 u.2) (fun u => [(h0, .inr (4, [.ref a1, .ref a2, .int (nI (bfs_mt st b (a, k)).2.length)])), (a1, zI E n u.1), (a2, zI E n u.2)])) := by
  refine zz_met (by decide +kernel) (Nat.le_of_ble_eq_true rfl) ?_
  intro p e s m below meth c A ls C hin hA hK hst hP hD hl
  obtain ⟨hx, hb, hr, hml, hown, hts, hlk⟩ := id C
  have hS : va_S A s.heap s.heap [] := va_S.rf
  have hl : lv_has ls 4 [(0, .ref h0), (1, .int (nI a)), (2, .int (nI b)), (3, .int (nI k))] := hl
  refine lv_iload_n hx hb d_Se_meet_0 rfl (lv_at hl 1 rfl) ?_
  refine lv_if_lt (tgt := 34) hx hb d_Se_meet_1 (by decide) (fun c_3 => ?_) (fun c_3 => ?_)
  · exact absurd c_3 (nI_pos (by omega))
  · refine lv_iload_n hx hb d_Se_meet_4 rfl (lv_at hl 1 rfl) ?_
    refine lv_aload_n hx hb d_Se_meet_5 rfl (lv_at hl 0 rfl) ?_
    refine zz_get C hK hP fl_Se_11 0 rfl rfl d_Se_meet_6 ?_
    refine zz_alenI C hK hP 1 rfl d_Se_meet_9 ?_
    refine lv_icmp_ge (tgt := 34) hx hb d_Se_meet_10 (by decide) (fun c_4 => ?_) (fun c_4 => ?_)
    · exact absurd c_4 (nI_ge ha (by omega))
    · refine lv_aload_n hx hb d_Se_meet_13 rfl (lv_at hl 0 rfl) ?_
      refine zz_get C hK hP fl_Se_11 0 rfl rfl d_Se_meet_14 ?_
      refine lv_iload_n hx hb d_Se_meet_17 rfl (lv_at hl 1 rfl) ?_
      refine zz_ialdN C hK hP 1 rfl (j := a) (ha) (by omega) d_Se_meet_18 ?_
      refine lv_if_ne (tgt := 34) hx hb d_Se_meet_19 (by decide) (fun c_5 => ?_) (fun c_5 => ?_)
      · have hz : ¬ st.1 a = 0 := fun z => c_5 (by rw [hR.1 a ha, z]; rfl)
        have e0 : bfs_mt st b (a, k) = st := by unfold bfs_mt; rw [if_neg hz]
        have hP : va_P E.1 vwCl [(h0, .inr (4, [.ref a1, .ref a2, .int (nI (bfs_mt st b (a, k)).2.length)])), (a1, zI E n fT), (a2, zI E n fQ)] s.heap := by rw [e0]; exact hP
        have hD : va_D A [(h0, .inr (4, [.ref a1, .ref a2, .int (nI (bfs_mt st b (a, k)).2.length)])), (a1, zI E n fT), (a2, zI E n fQ)] := by rw [e0]; exact hD
        exact zz_retv C hS (fT, fQ) (by rw [e0]; exact hR) hP hD d_Se_meet_34
      · have hz : st.1 a = 0 := zz_nI0 ((hR.1 a ha).symm.trans c_5) (bfs_tr hWF ha)
        have hq := bfs_room hWF ha hz
        refine lv_aload_n hx hb d_Se_meet_22 rfl (lv_at hl 0 rfl) ?_
        refine zz_get C hK hP fl_Se_34 0 rfl rfl d_Se_meet_23 ?_
        refine lv_aload_n hx hb d_Se_meet_26 rfl (lv_at hl 0 rfl) ?_
        refine zz_get C hK hP fl_Se_15 0 rfl rfl d_Se_meet_27 ?_
        refine zz_alenI C hK hP 2 rfl d_Se_meet_30 ?_
        refine lv_icmp_lt (tgt := 35) hx hb d_Se_meet_31 (by decide) (fun c_6 => ?_) (fun c_6 => ?_)
        · refine lv_aload_n hx hb d_Se_meet_35 rfl (lv_at hl 0 rfl) ?_
          refine zz_get C hK hP fl_Se_11 0 rfl rfl d_Se_meet_36 ?_
          refine lv_iload_n hx hb d_Se_meet_39 rfl (lv_at hl 1 rfl) ?_
          refine lv_iconst (v := 1) hx hb d_Se_meet_40 (by decide) ?_
          refine lv_iload_n hx hb d_Se_meet_41 rfl (lv_at hl 2 rfl) ?_
          refine lv_bipush (v := 8) hx hb d_Se_meet_42 (by decide) ?_
          refine lv_ishl hx hb d_Se_meet_44 ?_
          refine lv_iload_n hx hb d_Se_meet_45 rfl (lv_at hl 3 rfl) ?_
          refine lv_ior hx hb d_Se_meet_46 ?_
          refine lv_iadd hx hb d_Se_meet_47 ?_
          refine zz_eqi (y := nI (1 + (b * 256 + k))) (bfs_code (by omega) hk) ?_
          refine zz_iastN C hK hP hD hS 1 rfl (j := a) (ha) (by omega) d_Se_meet_48 (fun H locs hP hD hS => ?_)
          have hP : va_P E.1 vwCl [(h0, .inr (4, [.ref a1, .ref a2, .int (nI st.2.length)])), (a1, zI E n (upd fT a (nI (1 + (b * 256 + k))))), (a2, zI E n fQ)] H := hP
          have hD : va_D A [(h0, .inr (4, [.ref a1, .ref a2, .int (nI st.2.length)])), (a1, zI E n (upd fT a (nI (1 + (b * 256 + k))))), (a2, zI E n fQ)] := hD
          refine lv_aload_n hx hb d_Se_meet_49 rfl (lv_at hl 0 rfl) ?_
          refine zz_get C hK hP fl_Se_15 0 rfl rfl d_Se_meet_50 ?_
          refine lv_aload_n hx hb d_Se_meet_53 rfl (lv_at hl 0 rfl) ?_
          refine zz_get C hK hP fl_Se_34 0 rfl rfl d_Se_meet_54 ?_
          refine lv_iload_n hx hb d_Se_meet_57 rfl (lv_at hl 1 rfl) ?_
          refine zz_iastN C hK hP hD hS 2 rfl (j := st.2.length) (hq) (by omega) d_Se_meet_58 (fun H locs hP hD hS => ?_)
          have hP : va_P E.1 vwCl [(h0, .inr (4, [.ref a1, .ref a2, .int (nI st.2.length)])), (a1, zI E n (upd fT a (nI (1 + (b * 256 + k))))), (a2, zI E n (upd fQ st.2.length (nI a)))] H := hP
          have hD : va_D A [(h0, .inr (4, [.ref a1, .ref a2, .int (nI st.2.length)])), (a1, zI E n (upd fT a (nI (1 + (b * 256 + k))))), (a2, zI E n (upd fQ st.2.length (nI a)))] := hD
          refine lv_aload_n hx hb d_Se_meet_59 rfl (lv_at hl 0 rfl) ?_
          refine lv_dup hx hb d_Se_meet_60 rfl ?_
          refine zz_get C hK hP fl_Se_34 0 rfl rfl d_Se_meet_61 ?_
          refine lv_iconst (v := 1) hx hb d_Se_meet_64 (by decide) ?_
          refine lv_iadd hx hb d_Se_meet_65 ?_
          refine zz_eqi (y := nI (st.2.length + 1)) (nI_1 _) ?_
          refine zz_put C hK hP hD hS fl_Se_34 0 rfl rfl rfl (Nat.le_of_ble_eq_true rfl) d_Se_meet_66 (fun H locs hP hD hS => ?_)
          have hP : va_P E.1 vwCl [(h0, .inr (4, [.ref a1, .ref a2, .int (nI (st.2.length + 1))])), (a1, zI E n (upd fT a (nI (1 + (b * 256 + k))))), (a2, zI E n (upd fQ st.2.length (nI a)))] H := hP
          have hD : va_D A [(h0, .inr (4, [.ref a1, .ref a2, .int (nI (st.2.length + 1))])), (a1, zI E n (upd fT a (nI (1 + (b * 256 + k))))), (a2, zI E n (upd fQ st.2.length (nI a)))] := hD
          have e0 : (bfs_mt st b (a, k)).2.length = st.2.length + 1 := by unfold bfs_mt; rw [if_pos hz]; simp
          have hP : va_P E.1 vwCl [(h0, .inr (4, [.ref a1, .ref a2, .int (nI (bfs_mt st b (a, k)).2.length)])), (a1, zI E n (upd fT a (nI (1 + (b * 256 + k))))), (a2, zI E n (upd fQ st.2.length (nI a)))] H := by rw [e0]; exact hP
          have hD : va_D A [(h0, .inr (4, [.ref a1, .ref a2, .int (nI (bfs_mt st b (a, k)).2.length)])), (a1, zI E n (upd fT a (nI (1 + (b * 256 + k))))), (a2, zI E n (upd fQ st.2.length (nI a)))] := by rw [e0]; exact hD
          exact zz_retv C hS (upd fT a (nI (1 + (b * 256 + k))), upd fQ st.2.length (nI a)) (bfs_mt_RS hR hz) hP hD d_Se_meet_69
        · exact absurd (nI_lt hq (by omega)) c_6

set_option maxHeartbeats 4000000 in
set_option maxRecDepth 100000 in
theorem c_Se_before (l : Launch) (E : zG) (h0 a1 a2 n : Nat) (fT fQ : Nat → Int32) (st : (Nat → Nat) × List Nat) (a : Nat) (hn : n ≤ 10000) (ha : a < n) (hz : st.1 a ≠ 0) (hR : bfs_RS n st fT fQ) (hWF : bfs_WF n st) : zMet l y_Se_before b_Se_before 2 (some .int) 0 0 0 0 E [.ref h0, .int (nI a)] [(h0, .inr (4, [.ref a1, .ref a2, .int (nI st.2.length)])), (a1, zI E n fT), (a2, zI E n fQ)] (zQi E (S := Unit) (fun r _ => r = nI (bfs_bf st.1 a)) (fun _ => [(h0, .inr (4, [.ref a1, .ref a2, .int (nI st.2.length)])), (a1, zI E n fT), (a2, zI E n fQ)])) := by
  refine zz_met (by decide +kernel) (Nat.le_of_ble_eq_true rfl) ?_
  intro p e s m below meth c A ls C hin hA hK hst hP hD hl
  obtain ⟨hx, hb, hr, hml, hown, hts, hlk⟩ := id C
  have hS : va_S A s.heap s.heap [] := va_S.rf
  have hl : lv_has ls 2 [(0, .ref h0), (1, .int (nI a))] := hl
  refine lv_iload_n hx hb d_Se_before_0 rfl (lv_at hl 1 rfl) ?_
  refine lv_if_lt (tgt := 13) hx hb d_Se_before_1 (by decide) (fun c_7 => ?_) (fun c_7 => ?_)
  · exact absurd c_7 (nI_pos (by omega))
  · refine lv_iload_n hx hb d_Se_before_4 rfl (lv_at hl 1 rfl) ?_
    refine lv_aload_n hx hb d_Se_before_5 rfl (lv_at hl 0 rfl) ?_
    refine zz_get C hK hP fl_Se_11 0 rfl rfl d_Se_before_6 ?_
    refine zz_alenI C hK hP 1 rfl d_Se_before_9 ?_
    refine lv_icmp_lt (tgt := 17) hx hb d_Se_before_10 (by decide) (fun c_8 => ?_) (fun c_8 => ?_)
    · refine lv_aload_n hx hb d_Se_before_17 rfl (lv_at hl 0 rfl) ?_
      refine zz_get C hK hP fl_Se_11 0 rfl rfl d_Se_before_18 ?_
      refine lv_iload_n hx hb d_Se_before_21 rfl (lv_at hl 1 rfl) ?_
      refine zz_ialdN C hK hP 1 rfl (j := a) (ha) (by omega) d_Se_before_22 ?_
      refine lv_iconst (v := 1) hx hb d_Se_before_23 (by decide) ?_
      refine lv_isub hx hb d_Se_before_24 ?_
      refine lv_bipush (v := 8) hx hb d_Se_before_25 (by decide) ?_
      refine lv_ishr hx hb d_Se_before_27 ?_
      exact zz_reti C (rfl) hS () (by rw [hR.1 a ha]; exact bfs_before hz (hWF.2.2 a ha hz).2.1) hP hD d_Se_before_28
    · exact absurd (nI_lt ha (by omega)) c_8

set_option maxHeartbeats 4000000 in
set_option maxRecDepth 100000 in
theorem c_Se_stepInto (l : Launch) (E : zG) (h0 a1 a2 n : Nat) (fT fQ : Nat → Int32) (st : (Nat → Nat) × List Nat) (a : Nat) (hn : n ≤ 10000) (ha : a < n) (hz : st.1 a ≠ 0) (hR : bfs_RS n st fT fQ) (hWF : bfs_WF n st) : zMet l y_Se_stepInto b_Se_stepInto 2 (some .int) 0 0 0 0 E [.ref h0, .int (nI a)] [(h0, .inr (4, [.ref a1, .ref a2, .int (nI st.2.length)])), (a1, zI E n fT), (a2, zI E n fQ)] (zQi E (S := Unit) (fun r _ => r = nI ((st.1 a - 1) % 256)) (fun _ => [(h0, .inr (4, [.ref a1, .ref a2, .int (nI st.2.length)])), (a1, zI E n fT), (a2, zI E n fQ)])) := by
  refine zz_met (by decide +kernel) (Nat.le_of_ble_eq_true rfl) ?_
  intro p e s m below meth c A ls C hin hA hK hst hP hD hl
  obtain ⟨hx, hb, hr, hml, hown, hts, hlk⟩ := id C
  have hS : va_S A s.heap s.heap [] := va_S.rf
  have hl : lv_has ls 2 [(0, .ref h0), (1, .int (nI a))] := hl
  refine lv_iload_n hx hb d_Se_stepInto_0 rfl (lv_at hl 1 rfl) ?_
  refine lv_if_lt (tgt := 13) hx hb d_Se_stepInto_1 (by decide) (fun c_9 => ?_) (fun c_9 => ?_)
  · exact absurd c_9 (nI_pos (by omega))
  · refine lv_iload_n hx hb d_Se_stepInto_4 rfl (lv_at hl 1 rfl) ?_
    refine lv_aload_n hx hb d_Se_stepInto_5 rfl (lv_at hl 0 rfl) ?_
    refine zz_get C hK hP fl_Se_11 0 rfl rfl d_Se_stepInto_6 ?_
    refine zz_alenI C hK hP 1 rfl d_Se_stepInto_9 ?_
    refine lv_icmp_lt (tgt := 17) hx hb d_Se_stepInto_10 (by decide) (fun c_10 => ?_) (fun c_10 => ?_)
    · refine lv_aload_n hx hb d_Se_stepInto_17 rfl (lv_at hl 0 rfl) ?_
      refine zz_get C hK hP fl_Se_11 0 rfl rfl d_Se_stepInto_18 ?_
      refine lv_iload_n hx hb d_Se_stepInto_21 rfl (lv_at hl 1 rfl) ?_
      refine zz_ialdN C hK hP 1 rfl (j := a) (ha) (by omega) d_Se_stepInto_22 ?_
      refine lv_iconst (v := 1) hx hb d_Se_stepInto_23 (by decide) ?_
      refine lv_isub hx hb d_Se_stepInto_24 ?_
      refine lv_sipush (v := 255) hx hb d_Se_stepInto_25 (by decide) ?_
      refine lv_iand hx hb d_Se_stepInto_28 ?_
      exact zz_reti C (rfl) hS () (by rw [hR.1 a ha]; exact bfs_into hz) hP hD d_Se_stepInto_29
    · exact absurd (nI_lt ha (by omega)) c_10

set_option maxHeartbeats 4000000 in
set_option maxRecDepth 100000 in
theorem c_Se_makeRoom_keep (l : Launch) (E : zG) (h0 a1 a2 n k : Nat) (fT fQ : Nat → Int32) (mt : Int32) (hk : k ≤ n) (hn : n ≤ 10000) : zMet l y_Se_makeRoom b_Se_makeRoom 2 none 0 0 0 0 E [.ref h0, .int (nI k)] [(h0, .inr (4, [.ref a1, .ref a2, .int mt])), (a1, zI E n fT), (a2, zI E n fQ)] (zQv E (S := Unit) (fun _ => True) (fun _ => [(h0, .inr (4, [.ref a1, .ref a2, .int mt])), (a1, zI E n fT), (a2, zI E n fQ)])) := by
  refine zz_met (by decide +kernel) (Nat.le_of_ble_eq_true rfl) ?_
  intro p e s m below meth c A ls C hin hA hK hst hP hD hl
  obtain ⟨hx, hb, hr, hml, hown, hts, hlk⟩ := id C
  have hS : va_S A s.heap s.heap [] := va_S.rf
  have hl : lv_has ls 2 [(0, .ref h0), (1, .int (nI k))] := hl
  refine lv_iload_n hx hb d_Se_makeRoom_0 rfl (lv_at hl 1 rfl) ?_
  refine lv_aload_n hx hb d_Se_makeRoom_1 rfl (lv_at hl 0 rfl) ?_
  refine zz_get C hK hP fl_Se_11 0 rfl rfl d_Se_makeRoom_2 ?_
  refine zz_alenI C hK hP 1 rfl d_Se_makeRoom_5 ?_
  refine lv_icmp_le (tgt := 30) hx hb d_Se_makeRoom_6 (by decide) (fun c_11 => ?_) (fun c_11 => ?_)
  · exact zz_retv C hS () (trivial) hP hD d_Se_makeRoom_30
  · exact absurd (nI_le hk (by omega)) c_11

set_option maxHeartbeats 4000000 in
set_option maxRecDepth 100000 in
theorem c_Se_makeRoom_new (l : Launch) (E : zG) (h0 a1 a2 n k : Nat) (fT fQ : Nat → Int32) (mt : Int32) (hk : n < k) (hk2 : k ≤ 10000) : zMet l y_Se_makeRoom b_Se_makeRoom 2 none 0 0 2 (k + k) E [.ref h0, .int (nI k)] [(h0, .inr (4, [.ref a1, .ref a2, .int mt])), (a1, zI E n fT), (a2, zI E n fQ)] (zQv E (S := Nat × Nat) (fun _ => True) (fun u => [(h0, .inr (4, [.ref u.1, .ref u.2, .int mt])), (u.1, zI E k (fun _ => 0)), (u.2, zI E k (fun _ => 0))])) := by
  refine zz_met (by decide +kernel) (Nat.le_of_ble_eq_true rfl) ?_
  intro p e s m below meth c A ls C hin hA hK hst hP hD hl
  obtain ⟨hx, hb, hr, hml, hown, hts, hlk⟩ := id C
  have hS : va_S A s.heap s.heap [] := va_S.rf
  have hl : lv_has ls 2 [(0, .ref h0), (1, .int (nI k))] := hl
  refine lv_iload_n hx hb d_Se_makeRoom_0 rfl (lv_at hl 1 rfl) ?_
  refine lv_aload_n hx hb d_Se_makeRoom_1 rfl (lv_at hl 0 rfl) ?_
  refine zz_get C hK hP fl_Se_11 0 rfl rfl d_Se_makeRoom_2 ?_
  refine zz_alenI C hK hP 1 rfl d_Se_makeRoom_5 ?_
  refine lv_icmp_le (tgt := 30) hx hb d_Se_makeRoom_6 (by decide) (fun c_12 => ?_) (fun c_12 => ?_)
  · exact absurd c_12 (nI_ge hk (by omega))
  · refine lv_iload_n hx hb d_Se_makeRoom_9 rfl (lv_at hl 1 rfl) ?_
    refine lv_sipush (v := 10000) hx hb d_Se_makeRoom_10 (by decide) ?_
    refine lv_icmp_gt (tgt := 30) hx hb d_Se_makeRoom_13 (by decide) (fun c_13 => ?_) (fun c_13 => ?_)
    · exact absurd (nI_le (b := 10000) hk2 (by decide)) (zz_nle c_13)
    · refine lv_aload_n hx hb d_Se_makeRoom_16 rfl (lv_at hl 0 rfl) ?_
      refine lv_iload_n hx hb d_Se_makeRoom_17 rfl (lv_at hl 1 rfl) ?_
      refine zz_newI C hK hP hD hS hA (by omega) wd_ac_I (by dsimp only [zR]; omega) (by dsimp only [zR]; omega) d_Se_makeRoom_18 (fun q_14 H hP hD hS => ?_)
      have hP : va_P E.1 vwCl [(h0, .inr (4, [.ref a1, .ref a2, .int mt])), (a1, zI E n fT), (a2, zI E n fQ), (q_14, zI E k (fun _ => 0))] H := hP
      have hD : va_D A [(h0, .inr (4, [.ref a1, .ref a2, .int mt])), (a1, zI E n fT), (a2, zI E n fQ), (q_14, zI E k (fun _ => 0))] := hD
      refine zz_put C hK hP hD hS fl_Se_11 0 rfl rfl rfl (Nat.le_of_ble_eq_true rfl) d_Se_makeRoom_20 (fun H locs hP hD hS => ?_)
      have hP : va_P E.1 vwCl [(h0, .inr (4, [.ref q_14, .ref a2, .int mt])), (a1, zI E n fT), (a2, zI E n fQ), (q_14, zI E k (fun _ => 0))] H := hP
      have hD : va_D A [(h0, .inr (4, [.ref q_14, .ref a2, .int mt])), (a1, zI E n fT), (a2, zI E n fQ), (q_14, zI E k (fun _ => 0))] := hD
      refine lv_aload_n hx hb d_Se_makeRoom_23 rfl (lv_at hl 0 rfl) ?_
      refine lv_iload_n hx hb d_Se_makeRoom_24 rfl (lv_at hl 1 rfl) ?_
      refine zz_newI C hK hP hD hS hA (by omega) wd_ac_I (by dsimp only [zR]; omega) (by dsimp only [zR]; omega) d_Se_makeRoom_25 (fun q_15 H hP hD hS => ?_)
      have hP : va_P E.1 vwCl [(h0, .inr (4, [.ref q_14, .ref a2, .int mt])), (a1, zI E n fT), (a2, zI E n fQ), (q_14, zI E k (fun _ => 0)), (q_15, zI E k (fun _ => 0))] H := hP
      have hD : va_D A [(h0, .inr (4, [.ref q_14, .ref a2, .int mt])), (a1, zI E n fT), (a2, zI E n fQ), (q_14, zI E k (fun _ => 0)), (q_15, zI E k (fun _ => 0))] := hD
      refine zz_put C hK hP hD hS fl_Se_15 0 rfl rfl rfl (Nat.le_of_ble_eq_true rfl) d_Se_makeRoom_27 (fun H locs hP hD hS => ?_)
      have hP : va_P E.1 vwCl [(h0, .inr (4, [.ref q_14, .ref q_15, .int mt])), (a1, zI E n fT), (a2, zI E n fQ), (q_14, zI E k (fun _ => 0)), (q_15, zI E k (fun _ => 0))] H := hP
      have hD : va_D A [(h0, .inr (4, [.ref q_14, .ref q_15, .int mt])), (a1, zI E n fT), (a2, zI E n fQ), (q_14, zI E k (fun _ => 0)), (q_15, zI E k (fun _ => 0))] := hD
      have hP := hP.sub (ws' := [(h0, .inr (4, [.ref q_14, .ref q_15, .int mt])), (q_14, zI E k (fun _ => 0)), (q_15, zI E k (fun _ => 0))]) [0, 3, 4] rfl
      have hD := hD.sub (ws' := [(h0, .inr (4, [.ref q_14, .ref q_15, .int mt])), (q_14, zI E k (fun _ => 0)), (q_15, zI E k (fun _ => 0))]) [0, 3, 4] (by decide) rfl
      refine W.widen (k := 2) (n := k + k) (by omega) (by omega) ?_
      exact zz_retv C hS (q_14, q_15) (trivial) hP hD d_Se_makeRoom_30

set_option maxHeartbeats 4000000 in
set_option maxRecDepth 100000 in
theorem lp_Se_stepsTo {p : Program} {l : Launch} {e : Env} {s : State} {m : MethodId} {below : List Frame} {meth : Method} {c : Code} {A : Nat → Prop}  {E : zG} {h0 a1 a2 n : Nat} {fT fQ : Nat → Int32} {st : (Nat → Nat) × List Nat} {a : Nat} (hn : n ≤ 10000) (hR : bfs_RS n st fT fQ) (hWF : bfs_WF n st) (C : cx p s m #[.ref h0, .int (nI a)] meth c b_Se_stepsTo 5 y_Se_stepsTo.cls (some .int)) (hA : ∀ q, s.heap.size ≤ q → A q) (hK : kt E s) (hst : stt A s s.heap) :
    ∀ (f : Nat) (i x : Nat) (_ : x < n) (_ : st.1 x ≠ 0) (_ : i + f = 10000) (_ : i + bfs_cnt (bfs_bf st.1) f x = bfs_cnt (bfs_bf st.1) 10000 a) (H : Heap) (locs : List Loc) (ls : Array Slot), va_P E.1 vwCl [(h0, .inr (4, [.ref a1, .ref a2, .int (nI st.2.length)])), (a1, zI E n fT), (a2, zI E n fQ)] H → va_D A [(h0, .inr (4, [.ref a1, .ref a2, .int (nI st.2.length)])), (a1, zI E n fT), (a2, zI E n fQ)] → va_S A s.heap H locs → lv_has ls 5 [(0, .ref h0), (1, .int (nI a)), (2, .int (nI x)), (3, .int (nI i))] → W p l e (zR 1 21 0 0) s m #[.ref h0, .int (nI a)] below meth c H locs 0 0 (MQ below ((zQi E (S := Unit) (fun r _ => r = nI (bfs_cnt (bfs_bf st.1) 10000 a)) (fun _ => [(h0, .inr (4, [.ref a1, .ref a2, .int (nI st.2.length)])), (a1, zI E n fT), (a2, zI E n fQ)])) A) #[.ref h0, .int (nI a)] s 0 0 A) (F0 m 4 ls []) := by
  obtain ⟨hx, hb, hr, hml, hown, hts, hlk⟩ := id C
  intro f
  induction f with
  | zero =>
    intro i x hx0 hz0 hi hc H locs ls hP hD hS hl
    have hi : i = 10000 := by omega
    refine lv_iload_n hx hb d_Se_stepsTo_4 rfl (lv_at hl 3 rfl) ?_
    refine lv_sipush (v := 10000) hx hb d_Se_stepsTo_5 (by decide) ?_
    refine lv_icmp_ge (tgt := 35) hx hb d_Se_stepsTo_8 (by decide) (fun c_16 => ?_) (fun c_16 => ?_)
    · refine lv_sipush (v := 10000) hx hb d_Se_stepsTo_35 (by decide) ?_
      exact zz_reti C (rfl) hS () (by rw [← hc]; unfold bfs_cnt; rw [hi]; rfl) hP hD d_Se_stepsTo_38
    · exact absurd (by rw [hi]; exact nI_le (b := 10000) (Nat.le_refl _) (by decide)) c_16
  | succ f ih =>
    intro i x hx0 hz0 hi hc H locs ls hP hD hS hl
    refine lv_iload_n hx hb d_Se_stepsTo_4 rfl (lv_at hl 3 rfl) ?_
    refine lv_sipush (v := 10000) hx hb d_Se_stepsTo_5 (by decide) ?_
    refine lv_icmp_ge (tgt := 35) hx hb d_Se_stepsTo_8 (by decide) (fun c_17 => ?_) (fun c_17 => ?_)
    · exact absurd c_17 (nI_ge (b := 10000) (by omega) (by decide))
    · refine lv_aload_n hx hb d_Se_stepsTo_11 rfl (lv_at hl 0 rfl) ?_
      refine lv_iload_n hx hb d_Se_stepsTo_12 rfl (lv_at hl 2 rfl) ?_
      refine zz_goi (wr := []) [0, 1, 2] [] rfl rfl (by decide) (by decide) hA hP hD hS (zz_runV (wc := [(h0, .inr (4, [.ref a1, .ref a2, .int (nI st.2.length)])), (a1, zI E n fT), (a2, zI E n fQ)]) (As := [.int (nI x)]) (rest := []) C (c_Se_before l E h0 a1 a2 n fT fQ st x hn hx0 hz0 hR hWF) ym_Se_before wd_ml_Se_53 wd_im_Se_before wd_se_Se_before [0, 1, 2] (by decide) rfl hA hK hst hP hD hS (ci := 4) (q0 := 0) rfl rfl rfl rfl hl.1 rfl (Nat.le_of_ble_eq_true rfl) ⟨Nat.le_of_ble_eq_true rfl, Nat.le_of_ble_eq_true rfl⟩ ⟨Nat.le_of_ble_eq_true rfl, Nat.le_of_ble_eq_true rfl⟩ d_Se_stepsTo_13) (fun r_18 u H locs hw hP hD hS => ?_)
      have hP : va_P E.1 vwCl [(h0, .inr (4, [.ref a1, .ref a2, .int (nI st.2.length)])), (a1, zI E n fT), (a2, zI E n fQ)] H := hP
      have hD : va_D A [(h0, .inr (4, [.ref a1, .ref a2, .int (nI st.2.length)])), (a1, zI E n fT), (a2, zI E n fQ)] := hD
      subst hw
      obtain ⟨-, g1, g2, g3⟩ := hWF.2.2 x hx0 hz0
      refine lv_istore (lv' := [(4, .int (nI (bfs_bf st.1 x))), (0, .ref h0), (1, .int (nI a)), (2, .int (nI x)), (3, .int (nI i))]) hx hb d_Se_stepsTo_16 hl (by decide) rfl (fun ls hl => ?_)
      refine lv_iload hx hb d_Se_stepsTo_18 (lv_at hl 0 rfl) ?_
      refine lv_iload_n hx hb d_Se_stepsTo_20 rfl (lv_at hl 3 rfl) ?_
      refine lv_icmp_ne (tgt := 26) hx hb d_Se_stepsTo_21 (by decide) (fun c_19 => ?_) (fun c_19 => ?_)
      · refine lv_iload hx hb d_Se_stepsTo_26 (lv_at hl 0 rfl) ?_
        refine lv_istore_n (lv' := [(2, .int (nI (bfs_bf st.1 x))), (4, .int (nI (bfs_bf st.1 x))), (0, .ref h0), (1, .int (nI a)), (3, .int (nI i))]) hx hb d_Se_stepsTo_28 rfl hl (by decide) rfl (fun ls hl => ?_)
        refine lv_iinc (v := nI (i + 1)) (lv' := [(3, .int (nI (i + 1))), (2, .int (nI (bfs_bf st.1 x))), (4, .int (nI (bfs_bf st.1 x))), (0, .ref h0), (1, .int (nI a))]) hx hb d_Se_stepsTo_29 hl (k := 4) rfl (nI_1 _) (by decide) rfl (fun ls hl => ?_)
        refine lv_goto (tgt := 4) hx hb d_Se_stepsTo_32 (by decide) ?_
        have hne : ¬ bfs_bf st.1 x = x := fun z => c_19 (by rw [z])
        exact ih (i + 1) (bfs_bf st.1 x) g2 g3 (by omega) (by rw [← hc, bfs_cnt, if_neg hne]; omega) _ _ ls hP hD hS (lv_sub hl [3, 4, 1, 0] rfl)
      · have he : bfs_bf st.1 x = x := (nI_eq (by omega) (by omega)).mp c_19
        refine lv_iload_n hx hb d_Se_stepsTo_24 rfl (lv_at hl 4 rfl) ?_
        exact zz_reti C (rfl) hS () (by rw [← hc, bfs_cnt, if_pos he]; rfl) hP hD d_Se_stepsTo_25

set_option maxHeartbeats 4000000 in
set_option maxRecDepth 100000 in
theorem c_Se_stepsTo (l : Launch) (E : zG) (h0 a1 a2 n : Nat) (fT fQ : Nat → Int32) (st : (Nat → Nat) × List Nat) (a : Nat) (hn : n ≤ 10000) (ha : a < n) (hz : st.1 a ≠ 0) (hR : bfs_RS n st fT fQ) (hWF : bfs_WF n st) : zMet l y_Se_stepsTo b_Se_stepsTo 5 (some .int) 1 21 0 0 E [.ref h0, .int (nI a)] [(h0, .inr (4, [.ref a1, .ref a2, .int (nI st.2.length)])), (a1, zI E n fT), (a2, zI E n fQ)] (zQi E (S := Unit) (fun r _ => r = nI (bfs_cnt (bfs_bf st.1) 10000 a)) (fun _ => [(h0, .inr (4, [.ref a1, .ref a2, .int (nI st.2.length)])), (a1, zI E n fT), (a2, zI E n fQ)])) := by
  refine zz_met (by decide +kernel) (Nat.le_of_ble_eq_true rfl) ?_
  intro p e s m below meth c A ls C hin hA hK hst hP hD hl
  obtain ⟨hx, hb, hr, hml, hown, hts, hlk⟩ := id C
  have hS : va_S A s.heap s.heap [] := va_S.rf
  have hl : lv_has ls 5 [(0, .ref h0), (1, .int (nI a))] := hl
  refine lv_iload_n hx hb d_Se_stepsTo_0 rfl (lv_at hl 1 rfl) ?_
  refine lv_istore_n (lv' := [(2, .int (nI a)), (0, .ref h0), (1, .int (nI a))]) hx hb d_Se_stepsTo_1 rfl hl (by decide) rfl (fun ls hl => ?_)
  refine lv_iconst (v := 0) hx hb d_Se_stepsTo_2 (by decide) ?_
  refine lv_istore_n (lv' := [(3, .int 0), (2, .int (nI a)), (0, .ref h0), (1, .int (nI a))]) hx hb d_Se_stepsTo_3 rfl hl (by decide) rfl (fun ls hl => ?_)
  exact lp_Se_stepsTo hn hR hWF C hA hK hst 10000 0 a ha hz (by omega) (by omega) _ _ ls hP hD hS (lv_sub hl [2, 3, 1, 0] rfl)
