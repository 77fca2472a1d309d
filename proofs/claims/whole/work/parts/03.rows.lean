/-! The rows. -/
def ab_rt (ret : Option FieldType) (r : Option Value) : Prop := match r with
  | none => ret = none
  | some (.int x) => ∃ ty, ret = some ty ∧ narrow ty (.int x) = .int x
  | some (.ref _) => ∃ ty, ret = some ty ∧ ((∃ n, ty = .object n) ∨ ∃ t, ty = .array t)
  | _ => False
/-- from here the method comes to its end, with an answer and a world of which P holds -/
def ab_E (G : ab_G) (M : ab_M) (d : Nat × Nat) (pc : Nat) (lv : List (Nat × Value)) (st : List Value) (w : ab_W) (P : Option Value → ab_W → Prop) : Prop := ∃ r w2, ab_R G M d pc lv st w r w2 ∧ ab_rt M.2.2.2 r ∧ P r w2
theorem ab_E.mono {G : ab_G} {M : ab_M} {d : Nat × Nat} {pc : Nat} {lv : List (Nat × Value)} {st : List Value} {w : ab_W} {P P2 : Option Value → ab_W → Prop} (h : ab_E G M d pc lv st w P) (hP : ∀ r w2, P r w2 → P2 r w2) : ab_E G M d pc lv st w P2 := by
  obtain ⟨r, w2, h1, h2, h3⟩ := h
  exact ⟨r, w2, h1, h2, hP r w2 h3⟩
theorem ab_C.room {G : ab_G} {M : ab_M} {d d2 : Nat × Nat} {p : Program} {R : Room} {s : State} {m : MethodId} {args : Array Value} {meth : Method} {c : Code} (h : ab_C G M d p R s m args meth c) (h1 : d2.1 ≤ d.1) (h2 : d2.2 ≤ d.2) : ab_C G M d2 p R s m args meth c := by
  obtain ⟨a1, a2, a3, a4, a5, a6, a7, a8, a9, a10, a11⟩ := h
  exact ⟨a1, a2, a3, a4, a5, a6, a7, a8, Nat.le_trans h1 a9, Nat.le_trans h2 a10, a11⟩
theorem ab_E.room {G : ab_G} {M : ab_M} {d d2 : Nat × Nat} {pc : Nat} {lv : List (Nat × Value)} {st : List Value} {w : ab_W} {P : Option Value → ab_W → Prop} (h : ab_E G M d2 pc lv st w P) (h1 : d2.1 ≤ d.1) (h2 : d2.2 ≤ d.2) : ab_E G M d pc lv st w P := by
  obtain ⟨r, w2, ⟨b1, b2, b3⟩, hr, hP⟩ := h
  exact ⟨r, w2, ⟨b1, b2, fun p e R s m args below meth c H locs cells slots ls Q C => b3 p e R s m args below meth c H locs cells slots ls Q (C.room h1 h2)⟩, hr, hP⟩
section AB
variable {G : ab_G} {M : ab_M} {d : Nat × Nat} {pc : Nat} {lv : List (Nat × Value)} {st : List Value} {w : ab_W} {P : Option Value → ab_W → Prop}
/-- a step that changes no cell -/
theorem ab_go {pc1 : Nat} {lv1 : List (Nat × Value)} {st1 : List Value}
    (step : ∀ (p : Program) (e : Env) (R : Room) (s : State) (m : MethodId) (args : Array Value) (below : List Frame) (meth : Method) (c : Code) (H : Heap) (locs : List Loc) (cells slots : Nat) (ls : Array Slot) (Q : State → Prop), ab_C G M d p R s m args meth c → ab_I G w s H locs → cells ≤ R.cells → slots ≤ R.slots → ab_L G M lv ls → (∀ ls1, ab_L G M lv1 ls1 → W p (g_l G) e R s m args below meth c H locs cells slots Q (F0 m pc1 ls1 (st1.map (ab_v G)))) → W p (g_l G) e R s m args below meth c H locs cells slots Q (F0 m pc ls (st.map (ab_v G))))
    (kk : ab_E G M d pc1 lv1 st1 w P) : ab_E G M d pc lv st w P := by
  obtain ⟨r, w2, ⟨b1, b2, b3⟩, hr, hP⟩ := kk
  exact ⟨r, w2, ⟨b1, b2, fun p e R s m args below meth c H locs cells slots ls Q C I hz hc hs hl hret => step p e R s m args below meth c H locs cells slots ls Q C I (by omega) (by omega) hl (fun ls1 hl1 => b3 p e R s m args below meth c H locs cells slots ls1 Q C I hz hc hs hl1 hret)⟩, hr, hP⟩
/-- a step that writes one cell -/
theorem ab_goW {pc1 : Nat} {st1 : List Value} {h1 : ab_H}
    (step : ∀ (p : Program) (e : Env) (R : Room) (s : State) (m : MethodId) (args : Array Value) (below : List Frame) (meth : Method) (c : Code) (H : Heap) (locs : List Loc) (cells slots : Nat) (ls : Array Slot) (Q : State → Prop), ab_C G M d p R s m args meth c → ab_I G w s H locs → ab_L G M lv ls → (∀ (H1 : Heap) (locs1 : List Loc), ab_I G (h1, w.2) s H1 locs1 → W p (g_l G) e R s m args below meth c H1 locs1 cells slots Q (F0 m pc1 ls (st1.map (ab_v G)))) → W p (g_l G) e R s m args below meth c H locs cells slots Q (F0 m pc ls (st.map (ab_v G))))
    (kk : ab_E G M d pc1 lv st1 (h1, w.2) P) : ab_E G M d pc lv st w P := by
  obtain ⟨r, w2, ⟨b1, b2, b3⟩, hr, hP⟩ := kk
  exact ⟨r, w2, ⟨b1, b2, fun p e R s m args below meth c H locs cells slots ls Q C I hz hc hs hl hret => step p e R s m args below meth c H locs cells slots ls Q C I hl (fun H1 locs1 I1 => b3 p e R s m args below meth c H1 locs1 cells slots ls Q C I1 hz hc hs hl hret)⟩, hr, hP⟩

theorem e_iconst {n : Int} {v : Int32} (hd : decode M.2.1 pc = .ok (.iconst n, 1)) (hv : Int32.ofInt n = v) (kk : ab_E G M d (pc + 1) lv (.int v :: st) w P) : ab_E G M d pc lv st w P :=
  ab_go (fun p e R s m args below meth c H locs cells slots ls Q C I hc hs hl k => lv_iconst C.1 C.2.1 hd hv (k ls hl)) kk
theorem e_bipush {n : Int} {v : Int32} (hd : decode M.2.1 pc = .ok (.bipush n, 2)) (hv : (Int8.ofInt n).toInt32 = v) (kk : ab_E G M d (pc + 2) lv (.int v :: st) w P) : ab_E G M d pc lv st w P :=
  ab_go (fun p e R s m args below meth c H locs cells slots ls Q C I hc hs hl k => lv_bipush C.1 C.2.1 hd hv (k ls hl)) kk
theorem e_sipush {n : Int} {v : Int32} (hd : decode M.2.1 pc = .ok (.sipush n, 3)) (hv : (Int16.ofInt n).toInt32 = v) (kk : ab_E G M d (pc + 3) lv (.int v :: st) w P) : ab_E G M d pc lv st w P :=
  ab_go (fun p e R s m args below meth c H locs cells slots ls Q C I hc hs hl k => lv_sipush C.1 C.2.1 hd hv (k ls hl)) kk
theorem e_ldc {index : Nat} {v : Int32} (hd : decode M.2.1 pc = .ok (.ldc index, 2)) (hk : Cond.constant M.1.cls index v ∈ ab_T) (kk : ab_E G M d (pc + 2) lv (.int v :: st) w P) : ab_E G M d pc lv st w P :=
  ab_go (fun p e R s m args below meth c H locs cells slots ls Q C I hc hs hl k => lv_ldc C.1 C.2.1 C.2.2.2.2.1 (C.2.2.2.2.2.1 _ hk) hd (k ls hl)) kk
theorem e_iload_n {i : Fin 4} {x : Int32} (hd : decode M.2.1 pc = .ok (.iload_n i, 1)) (hv : ab_at lv i.val = some (.int x)) (kk : ab_E G M d (pc + 1) lv (.int x :: st) w P) : ab_E G M d pc lv st w P :=
  ab_go (fun p e R s m args below meth c H locs cells slots ls Q C I hc hs hl k => lv_iload_n C.1 C.2.1 hd rfl (hl.at hv) (k ls hl)) kk
theorem e_iload {i : Nat} {x : Int32} (hd : decode M.2.1 pc = .ok (.iload i, 2)) (hv : ab_at lv i = some (.int x)) (kk : ab_E G M d (pc + 2) lv (.int x :: st) w P) : ab_E G M d pc lv st w P :=
  ab_go (fun p e R s m args below meth c H locs cells slots ls Q C I hc hs hl k => lv_iload C.1 C.2.1 hd (hl.at hv) (k ls hl)) kk
theorem e_aload_n {i : Fin 4} {x : Nat} (hd : decode M.2.1 pc = .ok (.aload_n i, 1)) (hv : ab_at lv i.val = some (.ref x)) (kk : ab_E G M d (pc + 1) lv (.ref x :: st) w P) : ab_E G M d pc lv st w P :=
  ab_go (fun p e R s m args below meth c H locs cells slots ls Q C I hc hs hl k => lv_aload_n C.1 C.2.1 hd rfl (hl.at hv) (k ls hl)) kk
theorem e_aload {i : Nat} {x : Nat} (hd : decode M.2.1 pc = .ok (.aload i, 2)) (hv : ab_at lv i = some (.ref x)) (kk : ab_E G M d (pc + 2) lv (.ref x :: st) w P) : ab_E G M d pc lv st w P :=
  ab_go (fun p e R s m args below meth c H locs cells slots ls Q C I hc hs hl k => lv_aload C.1 C.2.1 hd (hl.at hv) (k ls hl)) kk
theorem e_istore_n {i : Fin 4} {x : Int32} {lv1 : List (Nat × Value)} (hd : decode M.2.1 pc = .ok (.istore_n i, 1)) (hi : i.val < M.2.2.1) (hv : ab_st lv i.val (.int x) = lv1) (kk : ab_E G M d (pc + 1) lv1 st w P) : ab_E G M d pc lv (.int x :: st) w P :=
  ab_go (fun p e R s m args below meth c H locs cells slots ls Q C I hc hs hl k => lv_istore_n C.1 C.2.1 hd rfl hl.1 hi rfl (fun ls1 h1 => k ls1 (hv ▸ hl.set rfl h1))) kk
theorem e_istore {i : Nat} {x : Int32} {lv1 : List (Nat × Value)} (hd : decode M.2.1 pc = .ok (.istore i, 2)) (hi : i < M.2.2.1) (hv : ab_st lv i (.int x) = lv1) (kk : ab_E G M d (pc + 2) lv1 st w P) : ab_E G M d pc lv (.int x :: st) w P :=
  ab_go (fun p e R s m args below meth c H locs cells slots ls Q C I hc hs hl k => lv_istore C.1 C.2.1 hd hl.1 hi rfl (fun ls1 h1 => k ls1 (hv ▸ hl.set rfl h1))) kk
theorem e_astore_n {i : Fin 4} {x : Nat} {lv1 : List (Nat × Value)} (hd : decode M.2.1 pc = .ok (.astore_n i, 1)) (hi : i.val < M.2.2.1) (hv : ab_st lv i.val (.ref x) = lv1) (kk : ab_E G M d (pc + 1) lv1 st w P) : ab_E G M d pc lv (.ref x :: st) w P :=
  ab_go (fun p e R s m args below meth c H locs cells slots ls Q C I hc hs hl k => lv_astore_n C.1 C.2.1 hd rfl hl.1 hi rfl (fun ls1 h1 => k ls1 (hv ▸ hl.set rfl h1))) kk
theorem e_astore {i : Nat} {x : Nat} {lv1 : List (Nat × Value)} (hd : decode M.2.1 pc = .ok (.astore i, 2)) (hi : i < M.2.2.1) (hv : ab_st lv i (.ref x) = lv1) (kk : ab_E G M d (pc + 2) lv1 st w P) : ab_E G M d pc lv (.ref x :: st) w P :=
  ab_go (fun p e R s m args below meth c H locs cells slots ls Q C I hc hs hl k => lv_astore C.1 C.2.1 hd hl.1 hi rfl (fun ls1 h1 => k ls1 (hv ▸ hl.set rfl h1))) kk
theorem ab_L.ix {G : ab_G} {M : ab_M} {lv : List (Nat × Value)} {ls : Array Slot} (_ : ab_L G M lv ls) {i : Nat} {v : Value} (hv : ab_at lv i = some v) : ∃ k : Nat, (ab_l G lv)[k]? = some (i, ab_v G v) := by
  obtain ⟨k, hk⟩ := List.getElem?_of_mem (ab_at_mem hv)
  exact ⟨k, by rw [ab_l, List.getElem?_map, hk]; rfl⟩
theorem e_iinc {i : Nat} {n : Int} {x v : Int32} {lv1 : List (Nat × Value)} (hd : decode M.2.1 pc = .ok (.iinc i n, 3)) (hx : ab_at lv i = some (.int x)) (hi : i < M.2.2.1) (hv : x + Int32.ofInt n = v) (hl1 : ab_st lv i (.int v) = lv1) (kk : ab_E G M d (pc + 3) lv1 st w P) : ab_E G M d pc lv st w P :=
  ab_go (fun p e R s m args below meth c H locs cells slots ls Q C I hc hs hl k => by
    obtain ⟨j, hj⟩ := hl.ix hx
    exact lv_iinc C.1 C.2.1 hd hl.1 hj hv hi rfl (fun ls1 h1 => k ls1 (hl1 ▸ hl.set (v := .int v) rfl h1))) kk
theorem e_iadd {x y : Int32} (hd : decode M.2.1 pc = .ok (.iadd, 1)) (kk : ab_E G M d (pc + 1) lv (.int (x + y) :: st) w P) : ab_E G M d pc lv (.int y :: .int x :: st) w P :=
  ab_go (fun p e R s m args below meth c H locs cells slots ls Q C I hc hs hl k => lv_iadd C.1 C.2.1 hd (k ls hl)) kk
theorem e_isub {x y : Int32} (hd : decode M.2.1 pc = .ok (.isub, 1)) (kk : ab_E G M d (pc + 1) lv (.int (x - y) :: st) w P) : ab_E G M d pc lv (.int y :: .int x :: st) w P :=
  ab_go (fun p e R s m args below meth c H locs cells slots ls Q C I hc hs hl k => lv_isub C.1 C.2.1 hd (k ls hl)) kk
theorem e_imul {x y : Int32} (hd : decode M.2.1 pc = .ok (.imul, 1)) (kk : ab_E G M d (pc + 1) lv (.int (x * y) :: st) w P) : ab_E G M d pc lv (.int y :: .int x :: st) w P :=
  ab_go (fun p e R s m args below meth c H locs cells slots ls Q C I hc hs hl k => lv_imul C.1 C.2.1 hd (k ls hl)) kk
theorem e_iand {x y : Int32} (hd : decode M.2.1 pc = .ok (.iand, 1)) (kk : ab_E G M d (pc + 1) lv (.int (x &&& y) :: st) w P) : ab_E G M d pc lv (.int y :: .int x :: st) w P :=
  ab_go (fun p e R s m args below meth c H locs cells slots ls Q C I hc hs hl k => lv_iand C.1 C.2.1 hd (k ls hl)) kk
theorem e_ior {x y : Int32} (hd : decode M.2.1 pc = .ok (.ior, 1)) (kk : ab_E G M d (pc + 1) lv (.int (x ||| y) :: st) w P) : ab_E G M d pc lv (.int y :: .int x :: st) w P :=
  ab_go (fun p e R s m args below meth c H locs cells slots ls Q C I hc hs hl k => lv_ior C.1 C.2.1 hd (k ls hl)) kk
theorem e_ixor {x y : Int32} (hd : decode M.2.1 pc = .ok (.ixor, 1)) (kk : ab_E G M d (pc + 1) lv (.int (x ^^^ y) :: st) w P) : ab_E G M d pc lv (.int y :: .int x :: st) w P :=
  ab_go (fun p e R s m args below meth c H locs cells slots ls Q C I hc hs hl k => lv_ixor C.1 C.2.1 hd (k ls hl)) kk
theorem e_ishl {x y : Int32} (hd : decode M.2.1 pc = .ok (.ishl, 1)) (kk : ab_E G M d (pc + 1) lv (.int (x <<< (y &&& 31)) :: st) w P) : ab_E G M d pc lv (.int y :: .int x :: st) w P :=
  ab_go (fun p e R s m args below meth c H locs cells slots ls Q C I hc hs hl k => lv_ishl C.1 C.2.1 hd (k ls hl)) kk
theorem e_ishr {x y : Int32} (hd : decode M.2.1 pc = .ok (.ishr, 1)) (kk : ab_E G M d (pc + 1) lv (.int (x >>> (y &&& 31)) :: st) w P) : ab_E G M d pc lv (.int y :: .int x :: st) w P :=
  ab_go (fun p e R s m args below meth c H locs cells slots ls Q C I hc hs hl k => lv_ishr C.1 C.2.1 hd (k ls hl)) kk
theorem e_iushr {x y v : Int32} (hd : decode M.2.1 pc = .ok (.iushr, 1)) (hv : (x.toUInt32 >>> (y.toUInt32 &&& Int32.toUInt32 31)).toInt32 = v) (kk : ab_E G M d (pc + 1) lv (.int v :: st) w P) : ab_E G M d pc lv (.int y :: .int x :: st) w P :=
  ab_go (fun p e R s m args below meth c H locs cells slots ls Q C I hc hs hl k => lv_iushr C.1 C.2.1 hd hv (k ls hl)) kk
theorem e_idiv {x y : Int32} (hd : decode M.2.1 pc = .ok (.idiv, 1)) (hy : ¬ y = 0) (kk : ab_E G M d (pc + 1) lv (.int (x / y) :: st) w P) : ab_E G M d pc lv (.int y :: .int x :: st) w P :=
  ab_go (fun p e R s m args below meth c H locs cells slots ls Q C I hc hs hl k => lv_idiv C.1 C.2.1 hd hy (k ls hl)) kk
theorem e_irem {x y : Int32} (hd : decode M.2.1 pc = .ok (.irem, 1)) (hy : ¬ y = 0) (kk : ab_E G M d (pc + 1) lv (.int (x - x / y * y) :: st) w P) : ab_E G M d pc lv (.int y :: .int x :: st) w P :=
  ab_go (fun p e R s m args below meth c H locs cells slots ls Q C I hc hs hl k => lv_irem C.1 C.2.1 hd hy (k ls hl)) kk
theorem e_ineg {x : Int32} (hd : decode M.2.1 pc = .ok (.ineg, 1)) (kk : ab_E G M d (pc + 1) lv (.int (-x) :: st) w P) : ab_E G M d pc lv (.int x :: st) w P :=
  ab_go (fun p e R s m args below meth c H locs cells slots ls Q C I hc hs hl k => lv_ineg C.1 C.2.1 hd (k ls hl)) kk
theorem e_dup {a : Value} (hd : decode M.2.1 pc = .ok (.dup, 1)) (ha : a.category = 1) (kk : ab_E G M d (pc + 1) lv (a :: a :: st) w P) : ab_E G M d pc lv (a :: st) w P :=
  ab_go (fun p e R s m args below meth c H locs cells slots ls Q C I hc hs hl k => lv_dup C.1 C.2.1 hd ((ab_cat G a).trans ha) (k ls hl)) kk
theorem e_pop {a : Value} (hd : decode M.2.1 pc = .ok (.pop, 1)) (ha : a.category = 1) (kk : ab_E G M d (pc + 1) lv st w P) : ab_E G M d pc lv (a :: st) w P :=
  ab_go (fun p e R s m args below meth c H locs cells slots ls Q C I hc hs hl k => lv_pop C.1 C.2.1 hd ((ab_cat G a).trans ha) (k ls hl)) kk
theorem e_dup_x1 {a b : Value} (hd : decode M.2.1 pc = .ok (.dup_x1, 1)) (ha : a.category = 1) (hb : b.category = 1) (kk : ab_E G M d (pc + 1) lv (a :: b :: a :: st) w P) : ab_E G M d pc lv (a :: b :: st) w P :=
  ab_go (fun p e R s m args below meth c H locs cells slots ls Q C I hc hs hl k => lv_dup_x1 C.1 C.2.1 hd ((ab_cat G a).trans ha) ((ab_cat G b).trans hb) (k ls hl)) kk
theorem e_dup_x2 {a b f : Value} (hd : decode M.2.1 pc = .ok (.dup_x2, 1)) (ha : a.category = 1) (hb : b.category = 1) (hf : f.category = 1) (kk : ab_E G M d (pc + 1) lv (a :: b :: f :: a :: st) w P) : ab_E G M d pc lv (a :: b :: f :: st) w P :=
  ab_go (fun p e R s m args below meth c H locs cells slots ls Q C I hc hs hl k => lv_dup_x2 C.1 C.2.1 hd ((ab_cat G a).trans ha) ((ab_cat G b).trans hb) ((ab_cat G f).trans hf) (k ls hl)) kk
theorem e_dup2 {a b : Value} (hd : decode M.2.1 pc = .ok (.dup2, 1)) (ha : a.category = 1) (hb : b.category = 1) (kk : ab_E G M d (pc + 1) lv (a :: b :: a :: b :: st) w P) : ab_E G M d pc lv (a :: b :: st) w P :=
  ab_go (fun p e R s m args below meth c H locs cells slots ls Q C I hc hs hl k => lv_dup2_11 C.1 C.2.1 hd ((ab_cat G a).trans ha) ((ab_cat G b).trans hb) (k ls hl)) kk
theorem e_icmp_eq {x y : Int32} {off : Int} {tgt : Nat} (hd : decode M.2.1 pc = .ok (.if_icmp .eq off, 3)) (ht : (pc : Int) + off = (tgt : Int)) (kt : x = y → ab_E G M d tgt lv st w P) (kf : ¬ x = y → ab_E G M d (pc + 3) lv st w P) : ab_E G M d pc lv (.int y :: .int x :: st) w P := by
  by_cases hq : x = y
  · exact ab_go (fun p e R s m args below meth c H locs cells slots ls Q C I hc hs hl k => lv_icmp_eq C.1 C.2.1 hd ht (fun _ => k ls hl) (fun h => absurd hq h)) (kt hq)
  · exact ab_go (fun p e R s m args below meth c H locs cells slots ls Q C I hc hs hl k => lv_icmp_eq C.1 C.2.1 hd ht (fun h => absurd h hq) (fun _ => k ls hl)) (kf hq)
theorem e_if_eq {x : Int32} {off : Int} {tgt : Nat} (hd : decode M.2.1 pc = .ok (.ifCond .eq off, 3)) (ht : (pc : Int) + off = (tgt : Int)) (kt : x = 0 → ab_E G M d tgt lv st w P) (kf : ¬ x = 0 → ab_E G M d (pc + 3) lv st w P) : ab_E G M d pc lv (.int x :: st) w P := by
  by_cases hq : x = 0
  · exact ab_go (fun p e R s m args below meth c H locs cells slots ls Q C I hc hs hl k => lv_if_eq C.1 C.2.1 hd ht (fun _ => k ls hl) (fun h => absurd hq h)) (kt hq)
  · exact ab_go (fun p e R s m args below meth c H locs cells slots ls Q C I hc hs hl k => lv_if_eq C.1 C.2.1 hd ht (fun h => absurd h hq) (fun _ => k ls hl)) (kf hq)
theorem e_icmp_ne {x y : Int32} {off : Int} {tgt : Nat} (hd : decode M.2.1 pc = .ok (.if_icmp .ne off, 3)) (ht : (pc : Int) + off = (tgt : Int)) (kt : ¬ x = y → ab_E G M d tgt lv st w P) (kf : x = y → ab_E G M d (pc + 3) lv st w P) : ab_E G M d pc lv (.int y :: .int x :: st) w P := by
  by_cases hq : x = y
  · exact ab_go (fun p e R s m args below meth c H locs cells slots ls Q C I hc hs hl k => lv_icmp_ne C.1 C.2.1 hd ht (fun h => absurd hq h) (fun _ => k ls hl)) (kf hq)
  · exact ab_go (fun p e R s m args below meth c H locs cells slots ls Q C I hc hs hl k => lv_icmp_ne C.1 C.2.1 hd ht (fun _ => k ls hl) (fun h => absurd h hq)) (kt hq)
theorem e_if_ne {x : Int32} {off : Int} {tgt : Nat} (hd : decode M.2.1 pc = .ok (.ifCond .ne off, 3)) (ht : (pc : Int) + off = (tgt : Int)) (kt : ¬ x = 0 → ab_E G M d tgt lv st w P) (kf : x = 0 → ab_E G M d (pc + 3) lv st w P) : ab_E G M d pc lv (.int x :: st) w P := by
  by_cases hq : x = 0
  · exact ab_go (fun p e R s m args below meth c H locs cells slots ls Q C I hc hs hl k => lv_if_ne C.1 C.2.1 hd ht (fun h => absurd hq h) (fun _ => k ls hl)) (kf hq)
  · exact ab_go (fun p e R s m args below meth c H locs cells slots ls Q C I hc hs hl k => lv_if_ne C.1 C.2.1 hd ht (fun _ => k ls hl) (fun h => absurd h hq)) (kt hq)
theorem e_icmp_lt {x y : Int32} {off : Int} {tgt : Nat} (hd : decode M.2.1 pc = .ok (.if_icmp .lt off, 3)) (ht : (pc : Int) + off = (tgt : Int)) (kt : x < y → ab_E G M d tgt lv st w P) (kf : ¬ x < y → ab_E G M d (pc + 3) lv st w P) : ab_E G M d pc lv (.int y :: .int x :: st) w P := by
  by_cases hq : x < y
  · exact ab_go (fun p e R s m args below meth c H locs cells slots ls Q C I hc hs hl k => lv_icmp_lt C.1 C.2.1 hd ht (fun _ => k ls hl) (fun h => absurd hq h)) (kt hq)
  · exact ab_go (fun p e R s m args below meth c H locs cells slots ls Q C I hc hs hl k => lv_icmp_lt C.1 C.2.1 hd ht (fun h => absurd h hq) (fun _ => k ls hl)) (kf hq)
theorem e_if_lt {x : Int32} {off : Int} {tgt : Nat} (hd : decode M.2.1 pc = .ok (.ifCond .lt off, 3)) (ht : (pc : Int) + off = (tgt : Int)) (kt : x < 0 → ab_E G M d tgt lv st w P) (kf : ¬ x < 0 → ab_E G M d (pc + 3) lv st w P) : ab_E G M d pc lv (.int x :: st) w P := by
  by_cases hq : x < 0
  · exact ab_go (fun p e R s m args below meth c H locs cells slots ls Q C I hc hs hl k => lv_if_lt C.1 C.2.1 hd ht (fun _ => k ls hl) (fun h => absurd hq h)) (kt hq)
  · exact ab_go (fun p e R s m args below meth c H locs cells slots ls Q C I hc hs hl k => lv_if_lt C.1 C.2.1 hd ht (fun h => absurd h hq) (fun _ => k ls hl)) (kf hq)
theorem e_icmp_ge {x y : Int32} {off : Int} {tgt : Nat} (hd : decode M.2.1 pc = .ok (.if_icmp .ge off, 3)) (ht : (pc : Int) + off = (tgt : Int)) (kt : y ≤ x → ab_E G M d tgt lv st w P) (kf : ¬ y ≤ x → ab_E G M d (pc + 3) lv st w P) : ab_E G M d pc lv (.int y :: .int x :: st) w P := by
  by_cases hq : y ≤ x
  · exact ab_go (fun p e R s m args below meth c H locs cells slots ls Q C I hc hs hl k => lv_icmp_ge C.1 C.2.1 hd ht (fun _ => k ls hl) (fun h => absurd hq h)) (kt hq)
  · exact ab_go (fun p e R s m args below meth c H locs cells slots ls Q C I hc hs hl k => lv_icmp_ge C.1 C.2.1 hd ht (fun h => absurd h hq) (fun _ => k ls hl)) (kf hq)
theorem e_if_ge {x : Int32} {off : Int} {tgt : Nat} (hd : decode M.2.1 pc = .ok (.ifCond .ge off, 3)) (ht : (pc : Int) + off = (tgt : Int)) (kt : 0 ≤ x → ab_E G M d tgt lv st w P) (kf : ¬ 0 ≤ x → ab_E G M d (pc + 3) lv st w P) : ab_E G M d pc lv (.int x :: st) w P := by
  by_cases hq : 0 ≤ x
  · exact ab_go (fun p e R s m args below meth c H locs cells slots ls Q C I hc hs hl k => lv_if_ge C.1 C.2.1 hd ht (fun _ => k ls hl) (fun h => absurd hq h)) (kt hq)
  · exact ab_go (fun p e R s m args below meth c H locs cells slots ls Q C I hc hs hl k => lv_if_ge C.1 C.2.1 hd ht (fun h => absurd h hq) (fun _ => k ls hl)) (kf hq)
theorem e_icmp_gt {x y : Int32} {off : Int} {tgt : Nat} (hd : decode M.2.1 pc = .ok (.if_icmp .gt off, 3)) (ht : (pc : Int) + off = (tgt : Int)) (kt : y < x → ab_E G M d tgt lv st w P) (kf : ¬ y < x → ab_E G M d (pc + 3) lv st w P) : ab_E G M d pc lv (.int y :: .int x :: st) w P := by
  by_cases hq : y < x
  · exact ab_go (fun p e R s m args below meth c H locs cells slots ls Q C I hc hs hl k => lv_icmp_gt C.1 C.2.1 hd ht (fun _ => k ls hl) (fun h => absurd hq h)) (kt hq)
  · exact ab_go (fun p e R s m args below meth c H locs cells slots ls Q C I hc hs hl k => lv_icmp_gt C.1 C.2.1 hd ht (fun h => absurd h hq) (fun _ => k ls hl)) (kf hq)
theorem e_if_gt {x : Int32} {off : Int} {tgt : Nat} (hd : decode M.2.1 pc = .ok (.ifCond .gt off, 3)) (ht : (pc : Int) + off = (tgt : Int)) (kt : 0 < x → ab_E G M d tgt lv st w P) (kf : ¬ 0 < x → ab_E G M d (pc + 3) lv st w P) : ab_E G M d pc lv (.int x :: st) w P := by
  by_cases hq : 0 < x
  · exact ab_go (fun p e R s m args below meth c H locs cells slots ls Q C I hc hs hl k => lv_if_gt C.1 C.2.1 hd ht (fun _ => k ls hl) (fun h => absurd hq h)) (kt hq)
  · exact ab_go (fun p e R s m args below meth c H locs cells slots ls Q C I hc hs hl k => lv_if_gt C.1 C.2.1 hd ht (fun h => absurd h hq) (fun _ => k ls hl)) (kf hq)
theorem e_icmp_le {x y : Int32} {off : Int} {tgt : Nat} (hd : decode M.2.1 pc = .ok (.if_icmp .le off, 3)) (ht : (pc : Int) + off = (tgt : Int)) (kt : x ≤ y → ab_E G M d tgt lv st w P) (kf : ¬ x ≤ y → ab_E G M d (pc + 3) lv st w P) : ab_E G M d pc lv (.int y :: .int x :: st) w P := by
  by_cases hq : x ≤ y
  · exact ab_go (fun p e R s m args below meth c H locs cells slots ls Q C I hc hs hl k => lv_icmp_le C.1 C.2.1 hd ht (fun _ => k ls hl) (fun h => absurd hq h)) (kt hq)
  · exact ab_go (fun p e R s m args below meth c H locs cells slots ls Q C I hc hs hl k => lv_icmp_le C.1 C.2.1 hd ht (fun h => absurd h hq) (fun _ => k ls hl)) (kf hq)
theorem e_if_le {x : Int32} {off : Int} {tgt : Nat} (hd : decode M.2.1 pc = .ok (.ifCond .le off, 3)) (ht : (pc : Int) + off = (tgt : Int)) (kt : x ≤ 0 → ab_E G M d tgt lv st w P) (kf : ¬ x ≤ 0 → ab_E G M d (pc + 3) lv st w P) : ab_E G M d pc lv (.int x :: st) w P := by
  by_cases hq : x ≤ 0
  · exact ab_go (fun p e R s m args below meth c H locs cells slots ls Q C I hc hs hl k => lv_if_le C.1 C.2.1 hd ht (fun _ => k ls hl) (fun h => absurd hq h)) (kt hq)
  · exact ab_go (fun p e R s m args below meth c H locs cells slots ls Q C I hc hs hl k => lv_if_le C.1 C.2.1 hd ht (fun h => absurd h hq) (fun _ => k ls hl)) (kf hq)
theorem e_goto {off : Int} {tgt : Nat} (hd : decode M.2.1 pc = .ok (.goto off, 3)) (ht : (pc : Int) + off = (tgt : Int)) (kk : ab_E G M d tgt lv st w P) : ab_E G M d pc lv st w P :=
  ab_go (fun p e R s m args below meth c H locs cells slots ls Q C I hc hs hl k => lv_goto C.1 C.2.1 hd ht (k ls hl)) kk
theorem e_tableOut {dflt lo hi : Int} {offs : Array Int} {len : Nat} {x : Int32} {tgt : Nat} (hd : decode M.2.1 pc = .ok (.tableswitch dflt lo hi offs, len)) (h : x.toInt < lo ∨ hi < x.toInt) (ht : (pc : Int) + dflt = (tgt : Int)) (kk : ab_E G M d tgt lv st w P) : ab_E G M d pc lv (.int x :: st) w P :=
  ab_go (fun p e R s m args below meth c H locs cells slots ls Q C I hc hs hl k => lv_tableOut C.1 C.2.1 hd h ht (k ls hl)) kk
theorem e_tableIn {dflt lo hi : Int} {offs : Array Int} {len : Nat} {x : Int32} {off : Int} {tgt : Nat} (hd : decode M.2.1 pc = .ok (.tableswitch dflt lo hi offs, len)) (h1 : ¬ x.toInt < lo) (h2 : ¬ hi < x.toInt) (ho : offs[(x.toInt - lo).toNat]? = some off) (ht : (pc : Int) + off = (tgt : Int)) (kk : ab_E G M d tgt lv st w P) : ab_E G M d pc lv (.int x :: st) w P :=
  ab_go (fun p e R s m args below meth c H locs cells slots ls Q C I hc hs hl k => lv_tableIn C.1 C.2.1 hd h1 h2 ho ht (k ls hl)) kk
theorem e_lookup {dflt : Int} {ps : Array (Int × Int)} {len : Nat} {x : Int32} {off : Int} {tgt : Nat} (hd : decode M.2.1 pc = .ok (.lookupswitch dflt ps, len)) (hp : (ps.toList.zip (ps.toList.drop 1)).all (fun (a, next) => a.1 < next.1) = true) (ho : Op.lookupswitch.offset ps.toList dflt x.toInt = off) (ht : (pc : Int) + off = (tgt : Int)) (kk : ab_E G M d tgt lv st w P) : ab_E G M d pc lv (.int x :: st) w P :=
  ab_go (fun p e R s m args below meth c H locs cells slots ls Q C I hc hs hl k => lv_lookup C.1 C.2.1 hd hp ho ht (k ls hl)) kk
/-- a name for the number on the stack -/
theorem e_top {x y : Int32} (hx : x = y) (kk : ab_E G M d pc lv (.int y :: st) w P) : ab_E G M d pc lv (.int x :: st) w P := by
  rw [hx]; exact kk
theorem ab_same {p : Program} {e : Env} {R : Room} {s : State} {m : MethodId} {args : Array Value} {below : List Frame} {meth : Method} {c : Code} {H : Heap} {locs : List Loc} {cells slots n k : Nat} {Q : State → Prop} {g : JFrame} (h : W p (g_l G) e R s m args below meth c H locs (cells + (n - n)) (slots + (k - k)) Q g) : W p (g_l G) e R s m args below meth c H locs cells slots Q g := by
  rw [Nat.sub_self, Nat.sub_self, Nat.add_zero, Nat.add_zero] at h
  exact h
theorem e_vret (hd : decode M.2.1 pc = .ok (.return_, 1)) (hr : M.2.2.2 = none) (hP : P none w) : ab_E G M d pc lv [] w P :=
  ⟨none, w, ⟨Nat.le_refl _, Nat.le_refl _, fun p e R s m args below meth c H locs cells slots ls Q C I hz hc hs hl hret => ab_same (hret H locs pc ls I (Or.inl ⟨rfl, hd⟩))⟩, hr, hP⟩
theorem e_iret {x : Int32} (hd : decode M.2.1 pc = .ok (.ireturn, 1)) (hr : M.2.2.2 = some .int) (hP : P (some (.int x)) w) : ab_E G M d pc lv [.int x] w P :=
  ⟨some (.int x), w, ⟨Nat.le_refl _, Nat.le_refl _, fun p e R s m args below meth c H locs cells slots ls Q C I hz hc hs hl hret => ab_same (hret H locs pc ls I (Or.inr (Or.inl ⟨x, rfl, hd⟩)))⟩, ⟨.int, hr, rfl⟩, hP⟩
theorem e_zret {x : Int32} (hd : decode M.2.1 pc = .ok (.ireturn, 1)) (hr : M.2.2.2 = some .boolean) (hx : x = 0 ∨ x = 1) (hP : P (some (.int x)) w) : ab_E G M d pc lv [.int x] w P :=
  ⟨some (.int x), w, ⟨Nat.le_refl _, Nat.le_refl _, fun p e R s m args below meth c H locs cells slots ls Q C I hz hc hs hl hret => ab_same (hret H locs pc ls I (Or.inr (Or.inl ⟨x, rfl, hd⟩)))⟩, ⟨.boolean, hr, by rcases hx with rfl | rfl <;> rfl⟩, hP⟩
theorem e_aret {a : Nat} {n : String} (hd : decode M.2.1 pc = .ok (.areturn, 1)) (hr : M.2.2.2 = some (.object n)) (hP : P (some (.ref a)) w) : ab_E G M d pc lv [.ref a] w P :=
  ⟨some (.ref a), w, ⟨Nat.le_refl _, Nat.le_refl _, fun p e R s m args below meth c H locs cells slots ls Q C I hz hc hs hl hret => ab_same (hret H locs pc ls I (Or.inr (Or.inr ⟨a, rfl, hd⟩)))⟩, ⟨_, hr, Or.inl ⟨n, rfl⟩⟩, hP⟩
theorem e_aretA {a : Nat} {t : FieldType} (hd : decode M.2.1 pc = .ok (.areturn, 1)) (hr : M.2.2.2 = some (.array t)) (hP : P (some (.ref a)) w) : ab_E G M d pc lv [.ref a] w P :=
  ⟨some (.ref a), w, ⟨Nat.le_refl _, Nat.le_refl _, fun p e R s m args below meth c H locs cells slots ls Q C I hz hc hs hl hret => ab_same (hret H locs pc ls I (Or.inr (Or.inr ⟨a, rfl, hd⟩)))⟩, ⟨_, hr, Or.inr ⟨t, rfl⟩⟩, hP⟩
end AB

