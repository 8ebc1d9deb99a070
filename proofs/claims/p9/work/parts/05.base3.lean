/-! ROWS OF BOOLEANS, and small number rows for the reference. -/
section ZZ3
variable {p : Program} {l : Launch} {e : Env} {R : Room} {s : State} {m : MethodId} {args : Array Value} {below : List Frame} {meth : Method} {c : Code} {H : Heap} {locs : List Loc} {cells slots : Nat} {Q : State → Prop}
variable {cc : ByteArray} {pc nL : Nat} {ls : Array Slot} {rest : List Value} {A : Nat → Prop} {a : Nat} {ws wc wr : va_W} {own : String} {ret : Option FieldType} {E : zG}
theorem zz_zaldN (C : cx p s m args meth c cc nL own ret) (hK : kt E s) (hP : va_P E.1 vwCl ws H) (q0 : Nat) {n : Nat} {f : Nat → Int32} (ha : ws[q0]? = some (a, zZ E n f)) {j : Nat} (hj : j < n) (hn : n < 2 ^ 31) (hdg : decode cc pc = .ok (.baload, 1))
    (kk : W p l e R s m args below meth c H locs cells slots Q (F0 m (pc + 1) ls (.int (f j) :: rest))) : W p l e R s m args below meth c H locs cells slots Q (F0 m pc ls (.int (nI j) :: .ref a :: rest)) := by
  refine va_zald C.1 C.2.1 hK.1 hP q0 2 ha rfl (vp_in_nI hj hn) hdg ?_
  rw [nI_clamp (Nat.lt_trans hj hn)]
  exact kk
theorem zz_zastN (C : cx p s m args meth c cc nL own ret) (hK : kt E s) (hP : va_P E.1 vwCl ws H) (hD : va_D A ws) (hS : va_S A s.heap H locs) (q0 : Nat) {n : Nat} {f : Nat → Int32} (ha : ws[q0]? = some (a, zZ E n f)) {j : Nat} {x : Int32} (hj : j < n) (hn : n < 2 ^ 31) (hx : vp_nar .boolean x = x) (hdg : decode cc pc = .ok (.bastore, 1))
    (kk : ∀ (H1 : Heap) (locs1 : List Loc), va_P E.1 vwCl (ws.set q0 (a, zZ E n (upd f j x))) H1 → va_D A (ws.set q0 (a, zZ E n (upd f j x))) → va_S A s.heap H1 locs1 → W p l e R s m args below meth c H1 locs1 cells slots Q (F0 m (pc + 1) ls rest)) : W p l e R s m args below meth c H locs cells slots Q (F0 m pc ls (.int x :: .int (nI j) :: .ref a :: rest)) := by
  refine va_zast C.1 C.2.1 hK.1 hP hD hS q0 2 ha rfl (vp_in_nI hj hn) hdg ?_
  rw [nI_clamp (Nat.lt_trans hj hn), hx]
  exact kk
variable {y : MethodName} {cy : ByteArray} {nl d lo mc ms n index : Nat} {r2 : Option FieldType} {Qc : (Nat → Prop) → Array Value → State → Outcome → State → Prop} {b : Nat} {As st0 : List Value}
/-- a call on an object whose cell is the caller's alone -/
theorem zz_runVw (C : cx p s m args meth c cc nL own ret) (hM : zMet l y cy nl r2 d lo mc ms E (.ref b :: As) wc Qc) (hy : ym y cy nl r2 n) (hlink : Cond.methodLink own index y ∈ TBL) (hinst : Cond.instanceMethod y ∈ TBL) (hsel : Cond.selects y.cls y y ∈ TBL) (isC : List Nat) (hnd : va_nd isC = true) (hC : isC.map (fun i => ws[i]?) = wc.map some) (hA : ∀ q, s.heap.size ≤ q → A q) (hK : kt E s) (hst : stt A s s.heap) (hP : va_P E.1 vwCl ws H) (hD : va_D A ws) (hS : va_S A s.heap H locs)
    {ci q0 : Nat} {fs : List Value} {q : vw_C} (hc : vwCl[ci]? = some q) (hq : q.1 = y.cls) (he : ws[q0]? = some (b, .inr (ci, fs))) (hn : As.length = n) (hls : ls.size = nL) (hst0 : st0 = As.reverse ++ .ref b :: rest) (hW : (rest.map fun v => v.category).sum ≤ 8) (hR : d + 1 ≤ R.frames ∧ 8 + (nl + 11) + lo ≤ R.locals) (hf : cells + mc ≤ R.cells ∧ slots + ms ≤ R.slots) (hdg : decode cc pc = .ok (.invokevirtual index, 3)) :
    va_Run p l e R s m args below meth c H locs cells slots mc ms (F0 m pc ls st0) rest (Qc (va_A wc H.size) (Value.ref b :: As).toArray) (va_A wc H.size) := by
  obtain ⟨hx, hb, hr, hml, hown, hts, hlk⟩ := C
  obtain ⟨y1, y2, y3, y4, y5⟩ := hy
  refine va_runV (C := y.cls) (Ts := TBL) (As := As) ⟨hx, hb, hml, hown, hts⟩ (hM H.size) (cwV n hts ?_ rfl rfl rfl ⟨rfl, y3, y4, y5⟩ hR) ⟨zP_blind, ?_, zz_pre isC hnd hC hA hK hst hP hD hS⟩ rfl hn hls hst0 (lv_room hW) hdg hf
  · intro w hw
    rcases List.mem_append.mp hw with h | h
    · simp only [List.mem_cons, List.not_mem_nil, or_false] at h
      rcases h with rfl | rfl | rfl | rfl
      · exact zz_goodW hlink
      · exact zz_goodW hinst
      · exact zz_goodW hsel
      · exact zz_goodW y2
    · exact zz_good y1 w h
  · rw [← hq]
    exact va_recv hK.1 hP hc he
end ZZ3
theorem zz_m1lt {n : Nat} (h : n < 2 ^ 31) : ¬ nI n ≤ -1 := by
  rw [Int32.le_iff_toInt_le, nI_toInt h]
  have e2 : (-1 : Int32).toInt = -1 := by decide
  rw [e2]
  omega
theorem zz_ge0 {n : Nat} (h : n < 2 ^ 31) : (0 : Int32) ≤ nI n := zz_nlt (nI_pos h)
theorem zz_lt0 {x : Int32} (h : ¬ 0 ≤ x) : x < 0 := by
  rw [Int32.le_iff_toInt_le] at h
  rw [Int32.lt_iff_toInt_lt]
  omega
