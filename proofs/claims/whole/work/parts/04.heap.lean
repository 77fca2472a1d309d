/-! The rows of cells: fields, arrays, new ones. -/
theorem ab_C.own {G : ab_G} {M : ab_M} {d : Nat × Nat} {p : Program} {R : Room} {s : State} {m : MethodId} {args : Array Value} {meth : Method} {c : Code} (h : ab_C G M d p R s m args meth c) : s.vm.findClass M.1.cls = some m.cls := h.2.2.2.2.1
theorem ab_C.wd {G : ab_G} {M : ab_M} {d : Nat × Nat} {p : Program} {R : Room} {s : State} {m : MethodId} {args : Array Value} {meth : Method} {c : Code} (h : ab_C G M d p R s m args meth c) : ∀ w ∈ ab_T, w.before args s = true := h.2.2.2.2.2.1
theorem ab_C.kk {G : ab_G} {M : ab_M} {d : Nat × Nat} {p : Program} {R : Room} {s : State} {m : MethodId} {args : Array Value} {meth : Method} {c : Code} (h : ab_C G M d p R s m args meth c) : ab_K G s := h.2.2.2.2.2.2.2.2.2.2
theorem ab_C.fr {G : ab_G} {M : ab_M} {d : Nat × Nat} {p : Program} {R : Room} {s : State} {m : MethodId} {args : Array Value} {meth : Method} {c : Code} (h : ab_C G M d p R s m args meth c) : d.1 ≤ R.frames ∧ d.2 ≤ R.locals := ⟨h.2.2.2.2.2.2.2.2.1, h.2.2.2.2.2.2.2.2.2.1⟩
theorem ab_ty {G : ab_G} {s : State} (hK : ab_K G s) {t : Nat} {ty : FieldType} (ht : ab_tys[t]? = some ty) : (g_T G)[t]? = some (((g_T G).getD t (0, .int)).1, ty) := by
  rw [← hK.2.1, List.getElem?_map] at ht
  obtain ⟨x, hx, rfl⟩ := Option.map_eq_some_iff.mp ht
  rw [List.getD_eq_getElem?_getD, hx]
  rfl
/-- a class by its number, its field table and their types -/
def ab_cl (ci : Nat) (C : String) (T : u_T) (N : Nat) (ty : Nat → FieldType) : Prop := vwCl[ci]? = some (C, T, N) ∧ (∀ w ∈ u_ws C T N, w ∈ ab_T) ∧ (∀ k, k < N → parseFieldDescriptor (T k).2.2.1 = some (ty k)) ∧ ∀ a, a < N → ∀ b, b < N → a ≠ b → (T a).2.1 ≠ (T b).2.1
/-- pool entry idx of the class own: field k of class ci -/
def ab_fl (own : String) (idx ci k : Nat) (t : FieldType) (fin : Bool) : Prop := ∃ (C : String) (T : u_T) (N : Nat) (ty : Nat → FieldType), ab_cl ci C T N ty ∧ k < N ∧ Cond.fieldLink own idx (T k).1 (T k).2.1 (T k).2.2.1 ∈ ab_T ∧ ty k = t ∧ (T k).2.2.2 = fin ∧ (T k).1 = C
/-- pool entry idx of the class own: class ci, whose new objects hold fs -/
def ab_nw (own : String) (idx ci : Nat) (fs : List Value) : Prop := ∃ (C : String) (T : u_T) (N : Nat) (ty : Nat → FieldType), ab_cl ci C T N ty ∧ Cond.classLink own idx C ∈ ab_T ∧ Cond.instantiable C N ∈ ab_T ∧ Cond.initialized C ∈ ab_T ∧ fs.length = N ∧ ∀ j, j < N → defaultValue (ty j) = vp_V fs j
theorem ab_vnull (G : ab_G) (ty : FieldType) : ab_v G (defaultValue ty) = defaultValue ty := by cases ty <;> rfl
theorem ab_vV (G : ab_G) (fs : List Value) (j : Nat) : vp_V (fs.map (ab_v G)) j = ab_v G (vp_V fs j) := by
  simp only [vp_V, List.getD_eq_getElem?_getD, List.getElem?_map]
  cases fs[j]? <;> rfl
theorem ab_fresh {G : ab_G} {h : ab_H} {n q : Nat} {x : va_E} {H : Heap} (hP : va_P (g_D G) vwCl (ab_w G h n ++ [(q, x)]) H) (hD : va_D (ab_A G) (ab_w G h n ++ [(q, x)])) (hn : 1 ≤ n) (hz : H.size ≤ g_B G + n + 1) : q = g_B G + n := by
  have hlen : (ab_w G h n).length = n - 1 := by simp [ab_w]
  have e1 : (ab_w G h n ++ [(q, x)])[n - 1]? = some (q, x) := by
    rw [List.getElem?_append_right (by omega), hlen, Nat.sub_self]
    rfl
  have h1 : q < H.size := (hP _ _ e1).lt
  have h2 : g_B G < q := hD.2 _ _ e1
  rcases Nat.lt_or_ge q (g_B G + n) with hq | hq
  · exfalso
    obtain ⟨i, hi⟩ : ∃ i, q = g_B G + (i + 1) := ⟨q - g_B G - 1, by omega⟩
    have hl : i < n - 1 := by omega
    have e2 : (ab_w G h n ++ [(q, x)])[i]? = some (g_B G + (i + 1), ab_e G ((h (i + 1)).getD (.inr (0, [])))) := by
      rw [List.getElem?_append_left (by omega), ab_w, List.getElem?_map, List.getElem?_range hl]
      rfl
    have := hD.1 _ _ _ _ e2 e1 hi.symm
    omega
  · omega
section AB
variable {G : ab_G} {M : ab_M} {d : Nat × Nat} {pc : Nat} {lv : List (Nat × Value)} {st : List Value} {w : ab_W} {P : Option Value → ab_W → Prop}
theorem e_get {idx ci k a : Nat} {t : FieldType} {fin : Bool} {fs : List Value} {v : Value} (hd : decode M.2.1 pc = .ok (.getfield idx, 3)) (hf : ab_fl M.1.cls idx ci k t fin) (ha : w.1 a = some (.inr (ci, fs))) (hv : fs[k]? = some v) (kk : ab_E G M d (pc + 3) lv (v :: st) w P) : ab_E G M d pc lv (.ref a :: st) w P :=
  ab_go (fun p e R s m args below meth c H locs cells slots ls Q C I hc hs hl k0 => by
    obtain ⟨Cn, T, N, ty, ⟨c1, c2, c3, c4⟩, hk, hlk, -⟩ := hf
    obtain ⟨p1, p2⟩ := I.1.pos ha
    exact va_get (D := g_D G) C.1 C.2.1 C.wd c2 C.own C.kk.1 I.2.1 (a - 1) (ab_w_get G ha p1 p2) c1 k hk (C.wd _ hlk) (fun _ h9 => h9) (by rw [List.getElem?_map, hv]; rfl) hd (k0 ls hl)) kk
theorem e_put {idx ci k a : Nat} {t : FieldType} {fs fs1 : List Value} {v : Value} (hd : decode M.2.1 pc = .ok (.putfield idx, 3)) (hf : ab_fl M.1.cls idx ci k t false) (ha : w.1 a = some (.inr (ci, fs))) (hk0 : k < fs.length) (hn : narrow t (ab_v G v) = ab_v G v) (hft : fits t (ab_v G v) = true) (hfs : fs.set k v = fs1) (kk : ab_E G M d (pc + 3) lv st (va_up w.1 a (some (.inr (ci, fs1))), w.2) P) : ab_E G M d pc lv (v :: .ref a :: st) w P :=
  ab_goW (fun p e R s m args below meth c H locs cells slots ls Q C I hl k0 => by
    obtain ⟨Cn, T, N, ty, ⟨c1, c2, c3, c4⟩, hk, hlk, hty, hfin, -⟩ := hf
    obtain ⟨p1, p2⟩ := I.1.pos ha
    refine va_put (D := g_D G) (v := ab_v G v) (ty := t) C.1 C.2.1 C.wd c2 ty c3 c4 C.own C.kk.1 I.2.1 (ab_w_D G _ _) I.2.2 (a - 1) (ab_w_get G ha p1 p2) c1 k hk (C.wd _ hlk) (fun _ h9 => h9) hfin (by rw [c3 k hk, hty]) hn hft (by simpa using hk0) hd (fun H1 locs1 q1 q2 q3 => k0 H1 locs1 ⟨I.1.set ha, ?_, q3⟩)
    subst hfs
    rw [← List.map_set] at q1
    have e2 := ab_w_set G (h := w.1) (.inr (ci, fs.set k v)) p1 p2
    rw [show ab_e G (.inr (ci, fs.set k v)) = .inr (ci, (fs.set k v).map (ab_v G)) from rfl] at e2
    rw [e2] at q1
    exact q1) kk
theorem e_putF {idx ci k a : Nat} {t : FieldType} {fs fs1 : List Value} {v : Value} (hd : decode M.2.1 pc = .ok (.putfield idx, 3)) (hf : ab_fl M.1.cls idx ci k t true) (hcls : (vwCl[ci]?).map (fun q => q.1) = some M.1.cls) (hin : M.1.name = "<init>") (ha : w.1 a = some (.inr (ci, fs))) (hk0 : k < fs.length) (hn : narrow t (ab_v G v) = ab_v G v) (hft : fits t (ab_v G v) = true) (hfs : fs.set k v = fs1) (kk : ab_E G M d (pc + 3) lv st (va_up w.1 a (some (.inr (ci, fs1))), w.2) P) : ab_E G M d pc lv (v :: .ref a :: st) w P :=
  ab_goW (fun p e R s m args below meth c H locs cells slots ls Q C I hl k0 => by
    obtain ⟨Cn, T, N, ty, ⟨c1, c2, c3, c4⟩, hk, hlk, hty, hfin, hown⟩ := hf
    obtain ⟨p1, p2⟩ := I.1.pos ha
    have hC : Cn = M.1.cls := by rw [c1] at hcls; exact Option.some.inj hcls
    refine va_putF (D := g_D G) (v := ab_v G v) (ty := t) C.1 C.2.1 C.wd c2 ty c3 c4 C.own C.kk.1 I.2.1 (ab_w_D G _ _) I.2.2 (a - 1) (ab_w_get G ha p1 p2) c1 k hk (C.wd _ hlk) (fun _ h9 => h9) hfin (C.2.2.2.2.2.2.2.1.trans hin) (hown.trans hC) (by rw [c3 k hk, hty]) hn hft (by simpa using hk0) hd (fun H1 locs1 q1 q2 q3 => k0 H1 locs1 ⟨I.1.set ha, ?_, q3⟩)
    subst hfs
    rw [← List.map_set] at q1
    have e2 := ab_w_set G (h := w.1) (.inr (ci, fs.set k v)) p1 p2
    rw [show ab_e G (.inr (ci, fs.set k v)) = .inr (ci, (fs.set k v).map (ab_v G)) from rfl] at e2
    rw [e2] at q1
    exact q1) kk
theorem e_iald {t a n j : Nat} {f : Nat → Int32} {i : Int32} (hd : decode M.2.1 pc = .ok (.iaload, 1)) (ha : w.1 a = some (.inl (t, n, .inl f))) (ht : ab_tys[t]? = some .int) (hi : i = nI j) (hj : j < n) (hn : n < 2 ^ 31) (kk : ab_E G M d (pc + 1) lv (.int (f j) :: st) w P) : ab_E G M d pc lv (.int i :: .ref a :: st) w P :=
  ab_go (fun p e R s m args below meth c H locs cells slots ls Q C I hc hs hl k0 => by
    obtain ⟨p1, p2⟩ := I.1.pos ha
    subst hi
    refine va_iald (D := g_D G) (f := f) C.1 C.2.1 C.kk.1 I.2.1 (a - 1) t (ab_w_get G ha p1 p2) (ab_ty C.kk ht) (vp_in_nI hj hn) hd ?_
    rw [nI_clamp (by omega)]
    exact k0 ls hl) kk
theorem e_iast {t a n j : Nat} {f : Nat → Int32} {i x : Int32} (hd : decode M.2.1 pc = .ok (.iastore, 1)) (ha : w.1 a = some (.inl (t, n, .inl f))) (ht : ab_tys[t]? = some .int) (hi : i = nI j) (hj : j < n) (hn : n < 2 ^ 31) (kk : ab_E G M d (pc + 1) lv st (va_up w.1 a (some (.inl (t, n, .inl (upd f j x)))), w.2) P) : ab_E G M d pc lv (.int x :: .int i :: .ref a :: st) w P :=
  ab_goW (fun p e R s m args below meth c H locs cells slots ls Q C I hl k0 => by
    obtain ⟨p1, p2⟩ := I.1.pos ha
    subst hi
    refine va_iast (D := g_D G) (f := f) C.1 C.2.1 C.kk.1 I.2.1 (ab_w_D G _ _) I.2.2 (a - 1) t (ab_w_get G ha p1 p2) (ab_ty C.kk ht) (vp_in_nI hj hn) hd (fun H1 locs1 q1 q2 q3 => k0 H1 locs1 ⟨I.1.set ha, ?_, q3⟩)
    rw [nI_clamp (by omega)] at q1
    have e2 := ab_w_set G (h := w.1) (.inl (t, n, .inl (upd f j x))) p1 p2
    rw [show ab_e G (.inl (t, n, .inl (upd f j x))) = .inl (((g_T G).getD t (0, .int)).1, n, .inl (upd f j x)) from rfl] at e2
    rw [e2] at q1
    exact q1) kk
theorem e_alen {t a n : Nat} {x : (Nat → Int32) ⊕ (Nat → Int64) ⊕ (Nat → UInt32) ⊕ (Nat → UInt64) ⊕ (Nat → Option Nat)} {ty : FieldType} (hd : decode M.2.1 pc = .ok (.arraylength, 1)) (ha : w.1 a = some (.inl (t, n, x))) (ht : ab_tys[t]? = some ty) (kk : ab_E G M d (pc + 1) lv (.int (nI n) :: st) w P) : ab_E G M d pc lv (.ref a :: st) w P :=
  ab_go (fun p e R s m args below meth c H locs cells slots ls Q C I hc hs hl k0 => by
    obtain ⟨p1, p2⟩ := I.1.pos ha
    have e1 : (ab_q G (n, x)).1 = n := by
      rcases x with f | f | f | f | f <;> rfl
    exact va_alen (D := g_D G) (x := ab_q G (n, x)) C.1 C.2.1 C.kk.1 I.2.1 (a - 1) t (ab_w_get G ha p1 p2) (ab_ty C.kk ht) (by rw [e1]; rfl) hd (k0 ls hl)) kk
theorem ab_rfv (G : ab_G) (r : Option Nat) : va_rf (r.map (ab_ad G)) = ab_v G (va_rf r) := by cases r <;> rfl
theorem e_aald {t a n j : Nat} {Cn : String} {f : Nat → Option Nat} {i : Int32} {v : Value} (hd : decode M.2.1 pc = .ok (.aaload, 1)) (ha : w.1 a = some (.inl (t, n, .inr (.inr (.inr (.inr f)))))) (ht : ab_tys[t]? = some (.object Cn)) (hi : i = nI j) (hj : j < n) (hn : n < 2 ^ 31) (hv : va_rf (f j) = v) (kk : ab_E G M d (pc + 1) lv (v :: st) w P) : ab_E G M d pc lv (.int i :: .ref a :: st) w P :=
  ab_go (fun p e R s m args below meth c H locs cells slots ls Q C I hc hs hl k0 => by
    obtain ⟨p1, p2⟩ := I.1.pos ha
    subst hi
    subst hv
    refine va_aldq (D := g_D G) (f := fun i => (f i).map (ab_ad G)) C.1 C.2.1 C.kk.1 I.2.1 (a - 1) t (ab_w_get G ha p1 p2) (ab_ty C.kk ht) (vp_in_nI hj hn) hd ?_
    rw [nI_clamp (by omega), ab_rfv]
    exact k0 ls hl) kk
theorem ab_upq (G : ab_G) (f : Nat → Option Nat) (j v : Nat) : va_up (fun i => (f i).map (ab_ad G)) j (some (ab_ad G v)) = fun i => (va_up f j (some v) i).map (ab_ad G) := by
  funext i
  by_cases h : i = j
  · simp [va_up, h]
  · simp [va_up, h]
theorem e_aast {t a n j ci v : Nat} {q : vw_C} {vs : List Value} {f : Nat → Option Nat} {i : Int32} (hd : decode M.2.1 pc = .ok (.aastore, 1)) (ha : w.1 a = some (.inl (t, n, .inr (.inr (.inr (.inr f)))))) (ht : ab_tys[t]? = some (.object q.1)) (hv : w.1 v = some (.inr (ci, vs))) (hc : vwCl[ci]? = some q) (hi : i = nI j) (hj : j < n) (hn : n < 2 ^ 31) (kk : ab_E G M d (pc + 1) lv st (va_up w.1 a (some (.inl (t, n, .inr (.inr (.inr (.inr (va_up f j (some v)))))))), w.2) P) : ab_E G M d pc lv (.ref v :: .int i :: .ref a :: st) w P :=
  ab_goW (fun p e R s m args below meth c H locs cells slots ls Q C I hl k0 => by
    obtain ⟨p1, p2⟩ := I.1.pos ha
    obtain ⟨p3, p4⟩ := I.1.pos hv
    subst hi
    refine va_astq (D := g_D G) (f := fun i => (f i).map (ab_ad G)) (r := q) C.1 C.2.1 C.kk.1 I.2.1 (ab_w_D G _ _) I.2.2 (a - 1) t (v - 1) ci (ab_w_get G ha p1 p2) (ab_ty C.kk ht) (ab_w_get G hv p3 p4) hc (vp_in_nI hj hn) hd (fun H1 locs1 q1 q2 q3 => k0 H1 locs1 ⟨I.1.set ha, ?_, q3⟩)
    rw [nI_clamp (by omega), ab_upq] at q1
    have e2 := ab_w_set G (h := w.1) (.inl (t, n, .inr (.inr (.inr (.inr (va_up f j (some v))))))) p1 p2
    rw [show ab_e G (.inl (t, n, .inr (.inr (.inr (.inr (va_up f j (some v))))))) = .inl (((g_T G).getD t (0, .int)).1, n, .inr (.inr (.inr (.inr (fun i => (va_up f j (some v) i).map (ab_ad G)))))) from rfl] at e2
    rw [e2] at q1
    exact q1) kk
/-- the script -/
theorem e_sld {j : Nat} {i : Int32} (hd : decode M.2.1 pc = .ok (.iaload, 1)) (hi : i = nI j) (hj : j < g_L G) (hn : g_L G < 2 ^ 31) (kk : ab_E G M d (pc + 1) lv (.int (g_x G j) :: st) w P) : ab_E G M d pc lv (.int i :: .ref 0 :: st) w P :=
  ab_go (fun p e R s m args below meth c H locs cells slots ls Q C I hc hs hl k0 => by
    obtain ⟨-, -, hX, hb1, hb2, -⟩ := C.kk
    subst hi
    refine va_sld (A := ab_A G) (b := g_b G) C.1 C.2.1 hX (by omega) (by show ¬ g_B G < g_b G; omega) I.2.2 (vp_in_nI hj hn) hd ?_
    rw [nI_clamp (by omega)]
    exact k0 ls hl) kk
theorem e_slen (hd : decode M.2.1 pc = .ok (.arraylength, 1)) (kk : ab_E G M d (pc + 1) lv (.int (nI (g_L G)) :: st) w P) : ab_E G M d pc lv (.ref 0 :: st) w P :=
  ab_go (fun p e R s m args below meth c H locs cells slots ls Q C I hc hs hl k0 => by
    obtain ⟨-, -, hX, hb1, hb2, -⟩ := C.kk
    exact va_slen (A := ab_A G) (b := g_b G) C.1 C.2.1 hX (by omega) (by show ¬ g_B G < g_b G; omega) I.2.2 hd (k0 ls hl)) kk
/-- a new cell -/
theorem ab_goA {pc1 k : Nat} {st1 : List Value} {x : va_E}
    (step : ∀ (p : Program) (e : Env) (R : Room) (s : State) (m : MethodId) (args : Array Value) (below : List Frame) (meth : Method) (c : Code) (H : Heap) (locs : List Loc) (cells slots : Nat) (ls : Array Slot) (Q : State → Prop), ab_C G M d p R s m args meth c → ab_I G w s H locs → cells + 1 ≤ R.cells → slots + k ≤ R.slots → ab_L G M lv ls → (∀ (q : Nat) (H1 : Heap), va_P (g_D G) vwCl (ab_w G w.1 w.2.1 ++ [(q, ab_e G x)]) H1 → va_D (ab_A G) (ab_w G w.1 w.2.1 ++ [(q, ab_e G x)]) → va_S (ab_A G) s.heap H1 locs → W p (g_l G) e R s m args below meth c H1 locs (cells + 1) (slots + k) Q (F0 m pc1 ls (.ref q :: st1.map (ab_v G)))) → W p (g_l G) e R s m args below meth c H locs cells slots Q (F0 m pc ls (st.map (ab_v G))))
    (kk : ab_E G M d pc1 lv (.ref w.2.1 :: st1) (va_up w.1 w.2.1 (some x), w.2.1 + 1, w.2.2 + k) P) : ab_E G M d pc lv st w P := by
  obtain ⟨r, w2, ⟨b1, b2, b3⟩, hr, hP⟩ := kk
  dsimp only at b1 b2
  refine ⟨r, w2, ⟨by omega, by omega, fun p e R s m args below meth c H locs cells slots ls Q C I hz hc hs hl hret => ?_⟩, hr, hP⟩
  refine step p e R s m args below meth c H locs cells slots ls Q C I (by omega) (by omega) hl (fun q H1 q1 q2 q3 T hT X => ?_)
  have hsz := X.heapSize
  rw [hT] at hsz
  have hq : q = g_B G + w.2.1 := ab_fresh q1 q2 I.1.1 (by omega)
  subst hq
  rw [ab_w_push G x I.1.1] at q1
  have e1 : cells + 1 + (w2.2.1 - (w.2.1 + 1)) = cells + (w2.2.1 - w.2.1) := by omega
  have e2 : slots + k + (w2.2.2 - (w.2.2 + k)) = slots + (w2.2.2 - w.2.2) := by omega
  have K := b3 p e R s m args below meth c H1 locs (cells + 1) (slots + k) ls Q C ⟨I.1.push x _, q1, q3⟩ (by dsimp only; omega) (by dsimp only; omega) (by dsimp only; omega) hl (fun H2 locs2 pc2 ls2 I2 t2 => by
    dsimp only
    rw [e1, e2]
    exact hret H2 locs2 pc2 ls2 I2 t2)
  rw [List.map_cons, ab_v_r, ab_ad_pos G (by have := I.1.1; omega)] at K
  exact K T hT X
theorem ab_hA {s : State} (hK : ab_K G s) : ∀ q : Nat, s.heap.size ≤ q → ab_A G q := fun q h => by
  have := hK.2.2.2.2.1
  show g_B G < q
  omega
theorem e_new {idx ci : Nat} {fs : List Value} (hd : decode M.2.1 pc = .ok (.new idx, 3)) (hk : ab_nw M.1.cls idx ci fs) (kk : ab_E G M d (pc + 3) lv (.ref w.2.1 :: st) (va_up w.1 w.2.1 (some (.inr (ci, fs))), w.2.1 + 1, w.2.2 + fs.length) P) : ab_E G M d pc lv st w P :=
  ab_goA (fun p e R s m args below meth c H locs cells slots ls Q C I hc hs hl k0 => by
    obtain ⟨Cn, T, N, ty, ⟨c1, c2, c3, c4⟩, k1, k2, k3, hN, hfs⟩ := hk
    subst hN
    exact va_new (ci := ci) (fs := fs.map (ab_v G)) C.1 C.2.1 C.wd c2 ty c3 C.own (C.wd _ k1) (C.wd _ k2) (C.wd _ k3) C.kk.1 I.2.1 (ab_w_D G _ _) I.2.2 (ab_hA C.kk) c1 (fun j hj => by rw [ab_vV, ← hfs j hj, ab_vnull]) hc hs hd (fun q H1 q1 q2 q3 => k0 q H1 q1 q2 q3)) kk
theorem e_newa {t n : Nat} {i : Int32} (hd : decode M.2.1 pc = .ok (.newarray .int, 2)) (ht : ab_tys[t]? = some .int) (hk : Cond.arrayClass .int ∈ ab_T) (hi : i = nI n) (hn : n ≤ 100000) (kk : ab_E G M d (pc + 2) lv (.ref w.2.1 :: st) (va_up w.1 w.2.1 (some (.inl (t, n, .inl (fun _ => 0)))), w.2.1 + 1, w.2.2 + n) P) : ab_E G M d pc lv (.int i :: st) w P :=
  ab_goA (fun p e R s m args below meth c H locs cells slots ls Q C I hc hs hl k0 => by
    subst hi
    refine va_newa (D := g_D G) (atype := .int) (N' := n) (ty := .int) (a0 := (n, .inl (fun _ => 0))) C.1 C.2.1 (C.wd _ hk) rfl C.kk.1 I.2.1 (ab_w_D G _ _) I.2.2 (ab_hA C.kk) (fun cA => rfl) (nI_pos (by omega)) (nI_clamp (by omega)) (by show n * 4 ≤ 536870912; omega) hc hs hd (fun q cA H1 qK q1 q2 q3 => ?_)
    have e1 : (((g_T G).getD t (0, .int)).1) = cA := by
      have h1 := (qK.2 (g_T G).length (cA, .int) (by rw [List.getElem?_append_right (Nat.le_refl _), Nat.sub_self]; rfl)).2
      have h2 := (C.kk.1.2 t _ (ab_ty C.kk ht)).2
      exact Option.some.inj (h2.symm.trans h1)
    rw [← e1] at q1 q2
    exact k0 q H1 q1 q2 q3) kk
theorem e_newq {t n idx : Nat} {i : Int32} {Cn : String} (hd : decode M.2.1 pc = .ok (.anewarray idx, 3)) (ht : ab_tys[t]? = some (.object Cn)) (hk : Cond.classLink M.1.cls idx Cn ∈ ab_T) (ho : Cn ∈ ab_over) (hi : i = nI n) (hn : n ≤ 100000) (kk : ab_E G M d (pc + 3) lv (.ref w.2.1 :: st) (va_up w.1 w.2.1 (some (.inl (t, n, .inr (.inr (.inr (.inr (fun _ => none))))))), w.2.1 + 1, w.2.2 + n) P) : ab_E G M d pc lv (.int i :: st) w P :=
  ab_goA (fun p e R s m args below meth c H locs cells slots ls Q C I hc hs hl k0 => by
    subst hi
    refine va_newq (D := g_D G) (N' := n) C.1 C.2.1 C.own (C.wd _ hk) (C.kk.2.2.2.2.2.2 _ ho) C.kk.1 I.2.1 (ab_w_D G _ _) I.2.2 (ab_hA C.kk) (nI_pos (by omega)) (nI_clamp (by omega)) (by omega) hc hs hd (fun q cA H1 qK q1 q2 q3 => ?_)
    have e1 : (((g_T G).getD t (0, .int)).1) = cA := by
      obtain ⟨-, -, -, -, -, h1⟩ := (qK.2 (g_T G).length (cA, .object Cn) (by rw [List.getElem?_append_right (Nat.le_refl _), Nat.sub_self]; rfl)).2
      obtain ⟨-, -, -, -, -, h2⟩ := (C.kk.1.2 t _ (ab_ty C.kk ht)).2
      exact Option.some.inj (h2.symm.trans h1)
    rw [← e1] at q1 q2
    exact k0 q H1 q1 q2 q3) kk
theorem e_copy {idx t a0 a1 n0 n1 sp dp n : Nat} {f g : Nat → Int32} {isp idp i : Int32} (hd : decode M.2.1 pc = .ok (.invokestatic idx, 3)) (hw : Cond.methodLink M.1.cls idx arraycopyName ∈ ab_T ∧ Cond.native arraycopyName ∈ ab_T ∧ Cond.static arraycopyName ∈ ab_T ∧ Cond.initialized "java/lang/System" ∈ ab_T) (h0 : w.1 a0 = some (.inl (t, n0, .inl f))) (h1 : w.1 a1 = some (.inl (t, n1, .inl g))) (ht : ab_tys[t]? = some .int) (e1 : isp = nI sp) (e2 : idp = nI dp) (e3 : i = nI n) (hs : sp + n ≤ n0) (hp : dp + n ≤ n1) (hn0 : n0 < 2 ^ 31) (hn1 : n1 < 2 ^ 31) (hr : 1 ≤ d.1 ∧ (st.map fun v => v.category).sum + (nativeFrameWords "java/lang/System" "arraycopy" 5 + 11) ≤ d.2) (kk : ab_E G M d (pc + 3) lv st (va_up w.1 a1 (some (.inl (t, n1, .inl (va_cpy f g sp dp n)))), w.2) P) : ab_E G M d pc lv (.int i :: .int idp :: .ref a1 :: .int isp :: .ref a0 :: st) w P :=
  ab_goW (fun p e R s m args below meth c H locs cells slots ls Q C I hl k0 => by
    obtain ⟨p1, p2⟩ := I.1.pos h0
    obtain ⟨p3, p4⟩ := I.1.pos h1
    subst e1 e2 e3
    have c1 : (nI sp).toNatClampNeg = sp := nI_clamp (by omega)
    have c2 : (nI dp).toNatClampNeg = dp := nI_clamp (by omega)
    have c3 : (nI n).toNatClampNeg = n := nI_clamp (by omega)
    refine va_copyi (D := g_D G) (f := f) (g := g) (ty := .int) C.1 C.2.1 (C.2.2.2.1.trans hl.1.1.symm) C.own (C.wd _ hw.1) (C.wd _ hw.2.1) (C.wd _ hw.2.2.1) (C.wd _ hw.2.2.2) C.kk.1 I.2.1 (ab_w_D G _ _) I.2.2 (a0 - 1) (a1 - 1) t t (ab_w_get G h0 p1 p2) (ab_w_get G h1 p3 p4) (ab_ty C.kk ht) (ab_ty C.kk ht) rfl (nI_pos (by omega)) (nI_pos (by omega)) (nI_pos (by omega)) (by rw [c1, c3]; exact hs) (by rw [c2, c3]; exact hp) (fun _ _ => rfl) (Nat.le_trans hr.1 C.fr.1) (by rw [ab_cats]; exact Nat.le_trans hr.2 C.fr.2) hd (fun H1 locs1 q1 q2 q3 => k0 H1 locs1 ⟨I.1.set h1, ?_, q3⟩)
    rw [c1, c2, c3] at q1
    have e2 := ab_w_set G (h := w.1) (.inl (t, n1, .inl (va_cpy f g sp dp n))) p3 p4
    rw [show ab_e G (.inl (t, n1, .inl (va_cpy f g sp dp n))) = .inl (((g_T G).getD t (0, .int)).1, n1, .inl (va_cpy f g sp dp n)) from rfl] at e2
    rw [e2] at q1
    exact q1) kk
theorem e_mmin {idx : Nat} {x y : Int32} (hd : decode M.2.1 pc = .ok (.invokestatic idx, 3)) (hw : Cond.methodLink M.1.cls idx Lib.Math.min.name ∈ ab_T ∧ Cond.static Lib.Math.min.name ∈ ab_T ∧ Cond.initialized "java/lang/Math" ∈ ab_T ∧ Cond.code Lib.Math.min.name Lib.Math.min.code 2 (some .int) ∈ ab_T) (hr : 1 ≤ d.1 ∧ (st.map fun v => v.category).sum + 13 ≤ d.2) (kk : ab_E G M d (pc + 3) lv (.int (if y < x then y else x) :: st) w P) : ab_E G M d pc lv (.int y :: .int x :: st) w P :=
  ab_go (fun p e R s m args below meth c H locs cells slots ls Q C I hc hs hl k0 => va_mmin C.1 C.2.1 (C.2.2.2.1.trans hl.1.1.symm) C.own (C.wd _ hw.1) (C.wd _ hw.2.1) (C.wd _ hw.2.2.1) (C.wd _ hw.2.2.2) (Nat.le_trans hr.1 C.fr.1) (by rw [ab_cats]; exact Nat.le_trans hr.2 C.fr.2) hc hs hd (k0 ls hl)) kk
/-- Object's own constructor -/
theorem e_obj {idx : Nat} {a : Nat} (hd : decode M.2.1 pc = .ok (.invokespecial idx, 3)) (hw : Cond.methodLink M.1.cls idx objectInit ∈ ab_T ∧ Cond.instanceMethod objectInit ∈ ab_T ∧ Cond.code objectInit ⟨#[0xb1]⟩ 1 none ∈ ab_T) (hr : 1 ≤ d.1 ∧ (st.map fun v => v.category).sum + 12 ≤ d.2) (kk : ab_E G M d (pc + 3) lv st w P) : ab_E G M d pc lv (.ref a :: st) w P :=
  ab_go (fun p e R s m args below meth c H locs cells slots ls Q C I hc hs hl k0 => W.objInit C.1 C.2.1 C.own (C.wd _ hw.1) (C.wd _ hw.2.1) (C.wd _ hw.2.2) rfl (hl.1.1.trans C.2.2.2.1.symm) rfl hd (Nat.le_trans hr.1 C.fr.1) (by show 2 * 0 + _ + 12 ≤ _; rw [Nat.mul_zero, Nat.zero_add]; exact (by rw [ab_cats]; exact Nat.le_trans hr.2 C.fr.2)) (k0 ls hl)) kk
/-- the same, the new world by a name -/
theorem e_putx {idx ci k a : Nat} {t : FieldType} {fs fs1 : List Value} {v : Value} (hd : decode M.2.1 pc = .ok (.putfield idx, 3)) (hf : ab_fl M.1.cls idx ci k t false) (ha : w.1 a = some (.inr (ci, fs))) (hk0 : k < fs.length) (hn : narrow t (ab_v G v) = ab_v G v) (hft : fits t (ab_v G v) = true) (hfs : fs.set k v = fs1) (kk : ∀ w1 : ab_W, w1.2 = w.2 → w1.1 a = some (.inr (ci, fs1)) → (∀ i, i ≠ a → w1.1 i = w.1 i) → ab_E G M d (pc + 3) lv st w1 P) : ab_E G M d pc lv (v :: .ref a :: st) w P :=
  e_put hd hf ha hk0 hn hft hfs (kk _ rfl (if_pos rfl) (fun _ hi => if_neg hi))
theorem e_putFx {idx ci k a : Nat} {t : FieldType} {fs fs1 : List Value} {v : Value} (hd : decode M.2.1 pc = .ok (.putfield idx, 3)) (hf : ab_fl M.1.cls idx ci k t true) (hcls : (vwCl[ci]?).map (fun q => q.1) = some M.1.cls) (hin : M.1.name = "<init>") (ha : w.1 a = some (.inr (ci, fs))) (hk0 : k < fs.length) (hn : narrow t (ab_v G v) = ab_v G v) (hft : fits t (ab_v G v) = true) (hfs : fs.set k v = fs1) (kk : ∀ w1 : ab_W, w1.2 = w.2 → w1.1 a = some (.inr (ci, fs1)) → (∀ i, i ≠ a → w1.1 i = w.1 i) → ab_E G M d (pc + 3) lv st w1 P) : ab_E G M d pc lv (v :: .ref a :: st) w P :=
  e_putF hd hf hcls hin ha hk0 hn hft hfs (kk _ rfl (if_pos rfl) (fun _ hi => if_neg hi))
theorem e_iastx {t a n j : Nat} {f : Nat → Int32} {i x : Int32} (hd : decode M.2.1 pc = .ok (.iastore, 1)) (ha : w.1 a = some (.inl (t, n, .inl f))) (ht : ab_tys[t]? = some .int) (hi : i = nI j) (hj : j < n) (hn : n < 2 ^ 31) (kk : ∀ w1 : ab_W, w1.2 = w.2 → w1.1 a = some (.inl (t, n, .inl (upd f j x))) → (∀ i, i ≠ a → w1.1 i = w.1 i) → ab_E G M d (pc + 1) lv st w1 P) : ab_E G M d pc lv (.int x :: .int i :: .ref a :: st) w P :=
  e_iast hd ha ht hi hj hn (kk _ rfl (if_pos rfl) (fun _ hi => if_neg hi))
theorem e_copyx {idx t a0 a1 n0 n1 sp dp n : Nat} {f g : Nat → Int32} {isp idp i : Int32} (hd : decode M.2.1 pc = .ok (.invokestatic idx, 3)) (hw : Cond.methodLink M.1.cls idx arraycopyName ∈ ab_T ∧ Cond.native arraycopyName ∈ ab_T ∧ Cond.static arraycopyName ∈ ab_T ∧ Cond.initialized "java/lang/System" ∈ ab_T) (h0 : w.1 a0 = some (.inl (t, n0, .inl f))) (h1 : w.1 a1 = some (.inl (t, n1, .inl g))) (ht : ab_tys[t]? = some .int) (e1 : isp = nI sp) (e2 : idp = nI dp) (e3 : i = nI n) (hs : sp + n ≤ n0) (hp : dp + n ≤ n1) (hn0 : n0 < 2 ^ 31) (hn1 : n1 < 2 ^ 31) (hr : 1 ≤ d.1 ∧ (st.map fun v => v.category).sum + (nativeFrameWords "java/lang/System" "arraycopy" 5 + 11) ≤ d.2) (kk : ∀ w1 : ab_W, w1.2 = w.2 → w1.1 a1 = some (.inl (t, n1, .inl (va_cpy f g sp dp n))) → (∀ i, i ≠ a1 → w1.1 i = w.1 i) → ab_E G M d (pc + 3) lv st w1 P) : ab_E G M d pc lv (.int i :: .int idp :: .ref a1 :: .int isp :: .ref a0 :: st) w P :=
  e_copy hd hw h0 h1 ht e1 e2 e3 hs hp hn0 hn1 hr (kk _ rfl (if_pos rfl) (fun _ hi => if_neg hi))
end AB
