section ZZ2
variable {p : Program} {l : Launch} {e : Env} {R : Room} {s : State} {m : MethodId} {args : Array Value} {below : List Frame} {meth : Method} {c : Code} {H : Heap} {locs : List Loc} {cells slots : Nat} {Q : State → Prop}
variable {cc : ByteArray} {pc nL : Nat} {ls : Array Slot} {rest : List Value} {A : Nat → Prop} {a : Nat} {ws wc wr : va_W} {own : String} {ret : Option FieldType} {E : zG}
theorem zz_newI (C : cx p s m args meth c cc nL own ret) (hK : kt E s) (hP : va_P E.1 vwCl ws H) (hD : va_D A ws) (hS : va_S A s.heap H locs) (hA : ∀ q, s.heap.size ≤ q → A q) {n : Nat} (hn : n ≤ 100000) (harr : Cond.arrayClass .int ∈ TBL) (hcells : cells + 1 ≤ R.cells) (hslots : slots + n ≤ R.slots) (hdg : decode cc pc = .ok (.newarray .int, 2))
    (kk : ∀ (q : Nat) (H1 : Heap), va_P E.1 vwCl (ws ++ [(q, zI E n (fun _ => 0))]) H1 → va_D A (ws ++ [(q, zI E n (fun _ => 0))]) → va_S A s.heap H1 locs → W p l e R s m args below meth c H1 locs (cells + 1) (slots + n) Q (F0 m (pc + 2) ls (.ref q :: rest))) : W p l e R s m args below meth c H locs cells slots Q (F0 m pc ls (.int (nI n) :: rest)) := by
  obtain ⟨hx, hb, hr, hml, hown, hts, hlk⟩ := C
  refine va_newa (a0 := (n, .inl (fun _ => 0))) (ty := .int) (atype := .int) hx hb (hts _ harr) rfl hK.1 hP hD hS hA (fun _ => rfl) (nI_pos (by omega)) (nI_clamp (by omega)) (Nat.le_trans (Nat.mul_le_mul hn (show componentBytes .int ≤ 4 from by decide)) (by decide)) hcells hslots hdg (fun q cA H1 hK1 hP1 hD1 hS1 => ?_)
  have e : cA = E.2.1 := by
    have h1 := (hK1.2 3 (cA, .int) rfl).2
    have h2 := (hK1.2 0 (E.2.1, .int) rfl).2
    have h3 : s.vm.findClass ("[" ++ FieldType.int.toString) = some cA := h1
    have h4 : s.vm.findClass ("[" ++ FieldType.int.toString) = some E.2.1 := h2
    rw [h3] at h4
    exact Option.some.inj h4
  subst e
  exact kk q H1 hP1 hD1 hS1
theorem zz_newL (C : cx p s m args meth c cc nL own ret) (hK : kt E s) (hP : va_P E.1 vwCl ws H) (hD : va_D A ws) (hS : va_S A s.heap H locs) (hA : ∀ q, s.heap.size ≤ q → A q) {n : Nat} (hn : n ≤ 100000) (harr : Cond.arrayClass .long ∈ TBL) (hcells : cells + 1 ≤ R.cells) (hslots : slots + n ≤ R.slots) (hdg : decode cc pc = .ok (.newarray .long, 2))
    (kk : ∀ (q : Nat) (H1 : Heap), va_P E.1 vwCl (ws ++ [(q, zL E n (fun _ => 0))]) H1 → va_D A (ws ++ [(q, zL E n (fun _ => 0))]) → va_S A s.heap H1 locs → W p l e R s m args below meth c H1 locs (cells + 1) (slots + n) Q (F0 m (pc + 2) ls (.ref q :: rest))) : W p l e R s m args below meth c H locs cells slots Q (F0 m pc ls (.int (nI n) :: rest)) := by
  obtain ⟨hx, hb, hr, hml, hown, hts, hlk⟩ := C
  refine va_newa (a0 := (n, .inr (.inl (fun _ => 0)))) (ty := .long) (atype := .long) hx hb (hts _ harr) rfl hK.1 hP hD hS hA (fun _ => rfl) (nI_pos (by omega)) (nI_clamp (by omega)) (Nat.le_trans (Nat.mul_le_mul hn (show componentBytes .long ≤ 8 from by decide)) (by decide)) hcells hslots hdg (fun q cA H1 hK1 hP1 hD1 hS1 => ?_)
  have e : cA = E.2.2.1 := by
    have h1 := (hK1.2 3 (cA, .long) rfl).2
    have h2 := (hK1.2 1 (E.2.2.1, .long) rfl).2
    have h3 : s.vm.findClass ("[" ++ FieldType.long.toString) = some cA := h1
    have h4 : s.vm.findClass ("[" ++ FieldType.long.toString) = some E.2.2.1 := h2
    rw [h3] at h4
    exact Option.some.inj h4
  subst e
  exact kk q H1 hP1 hD1 hS1
theorem zz_newZ (C : cx p s m args meth c cc nL own ret) (hK : kt E s) (hP : va_P E.1 vwCl ws H) (hD : va_D A ws) (hS : va_S A s.heap H locs) (hA : ∀ q, s.heap.size ≤ q → A q) {n : Nat} (hn : n ≤ 100000) (harr : Cond.arrayClass .boolean ∈ TBL) (hcells : cells + 1 ≤ R.cells) (hslots : slots + n ≤ R.slots) (hdg : decode cc pc = .ok (.newarray .boolean, 2))
    (kk : ∀ (q : Nat) (H1 : Heap), va_P E.1 vwCl (ws ++ [(q, zZ E n (fun _ => 0))]) H1 → va_D A (ws ++ [(q, zZ E n (fun _ => 0))]) → va_S A s.heap H1 locs → W p l e R s m args below meth c H1 locs (cells + 1) (slots + n) Q (F0 m (pc + 2) ls (.ref q :: rest))) : W p l e R s m args below meth c H locs cells slots Q (F0 m pc ls (.int (nI n) :: rest)) := by
  obtain ⟨hx, hb, hr, hml, hown, hts, hlk⟩ := C
  refine va_newa (a0 := (n, .inl (fun _ => 0))) (ty := .boolean) (atype := .boolean) hx hb (hts _ harr) rfl hK.1 hP hD hS hA (fun _ => rfl) (nI_pos (by omega)) (nI_clamp (by omega)) (Nat.le_trans (Nat.mul_le_mul hn (show componentBytes .boolean ≤ 4 from by decide)) (by decide)) hcells hslots hdg (fun q cA H1 hK1 hP1 hD1 hS1 => ?_)
  have e : cA = E.2.2.2 := by
    have h1 := (hK1.2 3 (cA, .boolean) rfl).2
    have h2 := (hK1.2 2 (E.2.2.2, .boolean) rfl).2
    have h3 : s.vm.findClass ("[" ++ FieldType.boolean.toString) = some cA := h1
    have h4 : s.vm.findClass ("[" ++ FieldType.boolean.toString) = some E.2.2.2 := h2
    rw [h3] at h4
    exact Option.some.inj h4
  subst e
  exact kk q H1 hP1 hD1 hS1
/-- Object's constructor does nothing -/
theorem zz_oi (C : cx p s m args meth c cc nL own ret) {idx : Nat} {o : Nat} (hlink : Cond.methodLink own idx Lib.objectInit ∈ TBL) (hinst : Cond.instanceMethod Lib.objectInit ∈ TBL) (hcode : Cond.code Lib.objectInit ⟨#[0xb1]⟩ 1 none ∈ TBL) (hls : ls.size = nL) (hf : 1 ≤ R.frames) (hlo : (rest.map fun v => v.category).sum + 12 ≤ R.locals) (hdg : decode cc pc = .ok (.invokespecial idx, 3))
    (kk : W p l e R s m args below meth c H locs cells slots Q (F0 m (pc + 3) ls rest)) : W p l e R s m args below meth c H locs cells slots Q (F0 m pc ls (.ref o :: rest)) := by
  obtain ⟨hx, hb, hr, hml, hown, hts, hlk⟩ := C
  refine W.objInit hx hb hown (hts _ hlink) (hts _ hinst) (hts _ hcode) rfl (by rw [hml]; exact hls) rfl hdg hf ?_ ?_
  · simpa [JFrame.monitorRoom] using hlo
  · exact kk
theorem zz_min (C : cx p s m args meth c cc nL own ret) {index : Nat} (hlink : Cond.methodLink own index Lib.Math.min.name ∈ TBL) (hstat : Cond.static Lib.Math.min.name ∈ TBL) (hini : Cond.initialized "java/lang/Math" ∈ TBL) (hcode : Cond.code Lib.Math.min.name Lib.Math.min.code 2 (some .int) ∈ TBL) (hls : ls.size = nL) (hf : 1 ≤ R.frames) (hlo : (rest.map fun v => v.category).sum + 13 ≤ R.locals) (hc : cells ≤ R.cells) (hs : slots ≤ R.slots) {x y : Int32} (hdg : decode cc pc = .ok (.invokestatic index, 3))
    (kk : W p l e R s m args below meth c H locs cells slots Q (F0 m (pc + 3) ls (.int (if y < x then y else x) :: rest))) : W p l e R s m args below meth c H locs cells slots Q (F0 m pc ls (.int y :: .int x :: rest)) := by
  obtain ⟨hx, hb, hr, hml, hown, hts, hlk⟩ := C
  exact va_mmin hx hb (hml.trans hls.symm) hown (hts _ hlink) (hts _ hstat) (hts _ hini) (hts _ hcode) hf hlo hc hs hdg kk
theorem zz_tabI (C : cx p s m args meth c cc nL own ret) {t N : Nat} {f : Nat → Int32} (hT : va_T .int t N (fun j => .int (f j)) A s s.heap) (hS : va_S A s.heap H locs) {j : Nat} (hj : j < N) (hn : N < 2 ^ 31) (hdg : decode cc pc = .ok (.iaload, 1))
    (kk : W p l e R s m args below meth c H locs cells slots Q (F0 m (pc + 1) ls (.int (f j) :: rest))) : W p l e R s m args below meth c H locs cells slots Q (F0 m pc ls (.int (nI j) :: .ref t :: rest)) := by
  refine va_ti C.1 C.2.1 hT hS (vp_in_nI hj hn) (v := .int (f j)) ?_ hdg kk
  rw [nI_clamp (Nat.lt_trans hj hn)]
theorem zz_ldcw (C : cx p s m args meth c cc nL own ret) {index : Nat} {v : Int32} (hconst : Cond.constant own index v ∈ TBL) (hdg : decode cc pc = .ok (.ldc_w index, 3))
    (kk : W p l e R s m args below meth c H locs cells slots Q (F0 m (pc + 3) ls (.int v :: rest))) : W p l e R s m args below meth c H locs cells slots Q (F0 m pc ls rest) := by
  obtain ⟨hx, hb, hr, hml, hown, hts, hlk⟩ := C
  intro T hT X
  obtain ⟨t, a1, b1⟩ := kk T hT X
  exact ⟨t, va_ldcwI X hx hown (hts _ hconst) rfl (by rw [hb]; exact hdg) t a1, b1⟩
theorem zz_new (C : cx p s m args meth c cc nL own ret) (hK : kt E s) (hP : va_P E.1 vwCl ws H) (hD : va_D A ws) (hS : va_S A s.heap H locs) (hA : ∀ q, s.heap.size ≤ q → A q) {index ci N : Nat} {Cn : String} {T : u_T} (ty : Nat → FieldType) (hin : ∀ w ∈ u_ws Cn T N, w ∈ TBL) (hty : ∀ k, k < N → parseFieldDescriptor (T k).2.2.1 = some (ty k)) (hcl : Cond.classLink own index Cn ∈ TBL) (hinst : Cond.instantiable Cn N ∈ TBL) (hini : Cond.initialized Cn ∈ TBL) (hc : vwCl[ci]? = some (Cn, T, N)) {fs : List Value} (hfs : ∀ j, j < N → defaultValue (ty j) = vp_V fs j) (hcells : cells + 1 ≤ R.cells) (hslots : slots + N ≤ R.slots) (hdg : decode cc pc = .ok (.new index, 3))
    (kk : ∀ (q : Nat) (H1 : Heap), va_P E.1 vwCl (ws ++ [(q, .inr (ci, fs))]) H1 → va_D A (ws ++ [(q, .inr (ci, fs))]) → va_S A s.heap H1 locs → W p l e R s m args below meth c H1 locs (cells + 1) (slots + N) Q (F0 m (pc + 3) ls (.ref q :: rest))) : W p l e R s m args below meth c H locs cells slots Q (F0 m pc ls rest) := by
  obtain ⟨hx, hb, hr, hml, hown, hts, hlk⟩ := C
  exact va_new hx hb hts hin ty hty hown (hts _ hcl) (hts _ hinst) (hts _ hini) hK.1 hP hD hS hA hc hfs hcells hslots hdg kk
end ZZ2
theorem zz_vp {k : Int32} {n : Nat} (h0 : ¬ k < 0) (h1 : ¬ nI n ≤ k) (hn : n < 2 ^ 31) : vp_in k n := by
  rw [vp_in_iff]
  have e := nI_toInt hn
  rw [Int32.lt_iff_toInt_lt] at h0
  rw [Int32.le_iff_toInt_le, e] at h1
  have z : (0 : Int32).toInt = 0 := by decide
  rw [z] at h0
  omega
theorem zz_if1 {P : Prop} [Decidable P] (h : ¬ (if P then (1 : Int32) else 0) = 0) : P := by
  by_cases hp : P
  · exact hp
  · rw [if_neg hp] at h
    exact absurd rfl h
theorem zz_if0 {P : Prop} [Decidable P] (h : (if P then (1 : Int32) else 0) = 0) : ¬ P := by
  intro hp
  rw [if_pos hp] at h
  exact absurd h (by decide)
theorem zz_minL {k n : Nat} (h : k ≤ n) (hn : n < 2 ^ 31) : (if nI n < nI k then nI n else nI k) = nI k := by rw [if_neg (nI_nlt h hn)]
theorem zz_minS (k : Nat) : (if nI k < nI k then nI k else nI k) = nI k := by split <;> rfl
theorem zz_nle {x y : Int32} (h : y < x) : ¬ x ≤ y := by
  rw [Int32.lt_iff_toInt_lt] at h
  rw [Int32.le_iff_toInt_le]
  omega
theorem zz_nI0 {t : Nat} (h : nI t = 0) (ht : t < 2 ^ 31) : t = 0 := (nI_eq ht (by decide)).mp (h.trans nI_0.symm)
theorem zz_ltc {c n : Nat} (h : ¬ nI n ≤ nI c) (hc : c < 2 ^ 31) : c < n := by
  rcases Nat.lt_or_ge c n with q | q
  · exact q
  · exact absurd (nI_le q hc) h
theorem zz_vp4 {c : Nat} {k : Int32} (hc : c ≤ 4) (h0 : ¬ k < 0) (h1 : ¬ nI c ≤ k) : vp_in k 4 := by
  obtain ⟨j, hj, rfl⟩ := vp_in_of (zz_vp h0 h1 (by omega)) (by omega)
  exact vp_in_nI (by omega) (by decide)
theorem zz_ltl {c n : Nat} (h : nI c < nI n) (hc : c < 2 ^ 31) : c < n := by
  rcases Nat.lt_or_ge c n with q | q
  · exact q
  · exact absurd h (nI_nlt q hc)
theorem zz_nm1 {x : Nat} (h : x < 2 ^ 31) : ¬ nI x = -1 := by
  intro z
  have e := congrArg Int32.toInt z
  rw [nI_toInt h] at e
  have e2 : (-1 : Int32).toInt = -1 := by decide
  rw [e2] at e
  omega
theorem zz_opt (o : Option Nat) : o = none ∨ ∃ x, o = some x := by
  cases o with
  | none => exact Or.inl rfl
  | some x => exact Or.inr ⟨x, rfl⟩
theorem zz_pred_lt (low : Nat) (h : low < 2 ^ 30) : nI (low + 0) - 1 < nI low := by
  rw [Nat.add_zero, Int32.lt_iff_toInt_lt, nI_toInt (by omega), show (1 : Int32) = nI 1 from rfl, pk_sub_toInt h (by decide)]
  omega
theorem zz_lneg {a b : Nat} (h : a < b) (hb : b < 4611686018427387904) : ¬ (0 : Int64) ≤ lN a - lN b := by
  rw [Int64.le_iff_toInt_le]
  have e1 : (lN a).toInt = (a : Int) := pk_lT (by omega)
  have e2 : (lN b).toInt = (b : Int) := pk_lT (by omega)
  have e3 : (lN a - lN b).toInt = (a : Int) - b := by
    rw [Int64.toInt_sub, e1, e2]
    exact Int.bmod_eq_of_le (by omega) (by omega)
  rw [e3]
  have e0 : (0 : Int64).toInt = 0 := by decide
  rw [e0]
  omega
theorem zz_bool {P Q R : Prop} {r : Int32} (h1 : P → r = 1 ∧ Q) (h2 : ¬ P → r = 0 ∧ R) : narrow .boolean (.int r) = .int r := by
  rcases Classical.em P with h | h
  · rw [(h1 h).1]; rfl
  · rw [(h2 h).1]; rfl
theorem zz_nlt {x y : Int32} (h : ¬ x < y) : y ≤ x := by
  rw [Int32.lt_iff_toInt_lt] at h
  rw [Int32.le_iff_toInt_le]
  omega
