/-! ONE MACHINE FOR ALL METHODS. A world is a function from numbers (ids) to cells; id 0 is the script. 'ab_R G M d pc lv st w r w2': the method M, at pc with locals lv and stack st in the world w, comes to its return with r, in the world w2. One row an instruction; the machine of the kit is behind it. -/
abbrev ab_H : Type := Nat → Option va_E
abbrev ab_W : Type := ab_H × Nat × Nat
abbrev ab_M : Type := MethodName × ByteArray × Nat × Option FieldType
abbrev ab_G : Type := Launch × va_G × List (ClassId × FieldType) × Nat × Nat × Nat × (Nat → Int32)
abbrev g_l (G : ab_G) : Launch := G.1
abbrev g_D (G : ab_G) : va_G := G.2.1
abbrev g_T (G : ab_G) : List (ClassId × FieldType) := G.2.2.1
abbrev g_b (G : ab_G) : Nat := G.2.2.2.1
abbrev g_B (G : ab_G) : Nat := G.2.2.2.2.1
abbrev g_L (G : ab_G) : Nat := G.2.2.2.2.2.1
abbrev g_x (G : ab_G) : Nat → Int32 := G.2.2.2.2.2.2
def ab_ad (G : ab_G) (i : Nat) : Nat := if i = 0 then g_b G else g_B G + i
def ab_v (G : ab_G) (v : Value) : Value := match v with
  | .ref a => .ref (ab_ad G a)
  | w => w
def ab_q (G : ab_G) (x : vp_A) : vp_A := match x with
  | (n, .inr (.inr (.inr (.inr f)))) => (n, .inr (.inr (.inr (.inr (fun i => (f i).map (ab_ad G))))))
  | y => y
def ab_e (G : ab_G) (x : va_E) : va_E := match x with
  | .inl (t, y) => .inl (((g_T G).getD t (0, .int)).1, ab_q G y)
  | .inr (ci, fs) => .inr (ci, fs.map (ab_v G))
def ab_w (G : ab_G) (h : ab_H) (n : Nat) : va_W := (List.range (n - 1)).map (fun i => (g_B G + (i + 1), ab_e G ((h (i + 1)).getD (.inr (0, [])))))
def ab_l (G : ab_G) (lv : List (Nat × Value)) : List (Nat × Value) := lv.map (fun q => (q.1, ab_v G q.2))
def ab_L (G : ab_G) (M : ab_M) (lv : List (Nat × Value)) (ls : Array Slot) : Prop := lv_has ls M.2.2.1 (ab_l G lv) ∧ ∀ q ∈ lv, q.2.category = 1
def ab_A (G : ab_G) : Nat → Prop := fun q => g_B G < q
def ab_dom (w : ab_W) : Prop := 1 ≤ w.2.1 ∧ ∀ i, (w.1 i).isSome = true ↔ 0 < i ∧ i < w.2.1
/-- the words that hold in every state, and stay -/
def ab_T : List Cond := lw_tbl.filter goodWord
theorem ab_T_in {w : Cond} (h : w ∈ lw_tbl) (hg : goodWord w = true) : w ∈ ab_T := List.mem_filter.mpr ⟨h, hg⟩
def ab_K (G : ab_G) (s : State) : Prop := va_K (g_D G) vwCl (g_T G) s ∧ (g_T G).map Prod.snd = ab_tys ∧ va_X (g_b G) (g_L G) (g_x G) s s.heap ∧ g_b G ≤ g_B G ∧ g_B G < s.heap.size ∧ (∀ q ∈ ab_nestM, va_Nw (.methodLinkNest q.1 q.2.1 q.2.2.1 q.2.2.2) s) ∧ ∀ C ∈ ab_over, va_AO C s
def ab_C (G : ab_G) (M : ab_M) (d : Nat × Nat) (p : Program) (R : Room) (s : State) (m : MethodId) (args : Array Value) (meth : Method) (c : Code) : Prop :=
  p.tables.exec = Jvm.exec ∧ c.code = M.2.1 ∧ meth.sig.returnType = M.2.2.2 ∧ c.maxLocals = M.2.2.1 ∧ s.vm.findClass M.1.cls = some m.cls ∧ (∀ w ∈ ab_T, w.before args s = true) ∧ meth.locks = false ∧ meth.name = M.1.name ∧ d.1 ≤ R.frames ∧ d.2 ≤ R.locals ∧ ab_K G s
def ab_I (G : ab_G) (w : ab_W) (s : State) (H : Heap) (locs : List Loc) : Prop := ab_dom w ∧ va_P (g_D G) vwCl (ab_w G w.1 w.2.1) H ∧ va_S (ab_A G) s.heap H locs
def ab_end (cc : ByteArray) (pc : Nat) (r : Option Value) : Prop := (r = none ∧ decode cc pc = .ok (.return_, 1)) ∨ (∃ x, r = some (.int x) ∧ decode cc pc = .ok (.ireturn, 1)) ∨ ∃ a, r = some (.ref a) ∧ decode cc pc = .ok (.areturn, 1)
def ab_R (G : ab_G) (M : ab_M) (d : Nat × Nat) (pc : Nat) (lv : List (Nat × Value)) (st : List Value) (w : ab_W) (r : Option Value) (w2 : ab_W) : Prop :=
  w.2.1 ≤ w2.2.1 ∧ w.2.2 ≤ w2.2.2 ∧ ∀ (p : Program) (e : Env) (R : Room) (s : State) (m : MethodId) (args : Array Value) (below : List Frame) (meth : Method) (c : Code) (H : Heap) (locs : List Loc) (cells slots : Nat) (ls : Array Slot) (Q : State → Prop),
    ab_C G M d p R s m args meth c → ab_I G w s H locs → s.heap.size + cells = g_B G + w.2.1 → cells + (w2.2.1 - w.2.1) ≤ R.cells → slots + (w2.2.2 - w.2.2) ≤ R.slots → ab_L G M lv ls →
    (∀ (H1 : Heap) (locs1 : List Loc) (pc1 : Nat) (ls1 : Array Slot), ab_I G w2 s H1 locs1 → ab_end M.2.1 pc1 r → W p (g_l G) e R s m args below meth c H1 locs1 (cells + (w2.2.1 - w.2.1)) (slots + (w2.2.2 - w.2.2)) Q (F0 m pc1 ls1 (r.toList.map (ab_v G)))) →
    W p (g_l G) e R s m args below meth c H locs cells slots Q (F0 m pc ls (st.map (ab_v G)))
theorem ab_v_i (G : ab_G) (x : Int32) : ab_v G (.int x) = .int x := rfl
theorem ab_v_r (G : ab_G) (a : Nat) : ab_v G (.ref a) = .ref (ab_ad G a) := rfl
theorem ab_cat (G : ab_G) (v : Value) : (ab_v G v).category = v.category := by cases v <;> rfl
theorem ab_cats (G : ab_G) (st : List Value) : ((st.map (ab_v G)).map fun v => v.category) = st.map fun v => v.category := by
  rw [List.map_map]; exact List.map_congr_left (fun v _ => ab_cat G v)
theorem ab_ad_pos (G : ab_G) {a : Nat} (h : 0 < a) : ab_ad G a = g_B G + a := if_neg (by omega)
theorem ab_w_get (G : ab_G) {h : ab_H} {n a : Nat} {x : va_E} (hx : h a = some x) (h0 : 0 < a) (hn : a < n) : (ab_w G h n)[a - 1]? = some (ab_ad G a, ab_e G x) := by
  have e1 : a - 1 + 1 = a := by omega
  rw [ab_w, List.getElem?_map, List.getElem?_range (by omega), Option.map_some, e1, hx, ab_ad_pos G h0]
  rfl
theorem ab_w_at (G : ab_G) {h : ab_H} {n k : Nat} {q : Nat × va_E} (hk : (ab_w G h n)[k]? = some q) : k + 1 < n ∧ q = (g_B G + (k + 1), ab_e G ((h (k + 1)).getD (.inr (0, [])))) := by
  rw [ab_w, List.getElem?_map] at hk
  by_cases hl : k < n - 1
  · rw [List.getElem?_range hl, Option.map_some] at hk
    exact ⟨by omega, (Option.some.inj hk).symm⟩
  · rw [List.getElem?_eq_none (by simpa using hl)] at hk
    cases hk
theorem ab_w_set (G : ab_G) {h : ab_H} {n a : Nat} (x : va_E) (h0 : 0 < a) (hn : a < n) : (ab_w G h n).set (a - 1) (ab_ad G a, ab_e G x) = ab_w G (va_up h a (some x)) n := by
  apply List.ext_getElem?
  intro k
  have e1 : a - 1 + 1 = a := by omega
  by_cases hl : k < n - 1
  · by_cases hk : k = a - 1
    · subst hk
      rw [List.getElem?_set_self (by simp [ab_w]; omega), ab_w_get G (x := x) (by simp [va_up]) h0 hn]
    · rw [List.getElem?_set_ne (Ne.symm hk), ab_w, ab_w, List.getElem?_map, List.getElem?_map, List.getElem?_range hl]
      have e2 : va_up h a (some x) (k + 1) = h (k + 1) := if_neg (by omega)
      simp only [Option.map_some, e2]
  · rw [List.getElem?_eq_none (by simp [ab_w]; omega), List.getElem?_eq_none (by simp [ab_w]; omega)]
theorem ab_w_push (G : ab_G) {h : ab_H} {n : Nat} (x : va_E) (hn : 1 ≤ n) : ab_w G h n ++ [(g_B G + n, ab_e G x)] = ab_w G (va_up h n (some x)) (n + 1) := by
  have e1 : n + 1 - 1 = (n - 1) + 1 := by omega
  have e2 : n - 1 + 1 = n := by omega
  rw [ab_w, ab_w, e1, List.range_succ, List.map_append]
  congr 1
  · apply List.map_congr_left
    intro i hi
    have hi' := List.mem_range.mp hi
    have e3 : va_up h n (some x) (i + 1) = h (i + 1) := if_neg (by omega)
    rw [e3]
  · simp only [List.map_cons, List.map_nil, e2]
    have e3 : va_up h n (some x) n = some x := if_pos rfl
    rw [e3]
    rfl
theorem ab_w_D (G : ab_G) (h : ab_H) (n : Nat) : va_D (ab_A G) (ab_w G h n) := by
  refine ⟨fun i j x y hi hj hxy => ?_, fun k q hk => ?_⟩
  · rw [(ab_w_at G hi).2, (ab_w_at G hj).2] at hxy
    dsimp only at hxy
    omega
  · rw [(ab_w_at G hk).2]
    show g_B G < g_B G + (k + 1)
    omega
theorem ab_dom.pos {w : ab_W} (h : ab_dom w) {a : Nat} {x : va_E} (hx : w.1 a = some x) : 0 < a ∧ a < w.2.1 := (h.2 a).mp (by rw [hx]; rfl)
theorem ab_dom.set {w : ab_W} (h : ab_dom w) {a : Nat} {x y : va_E} (hx : w.1 a = some x) : ab_dom (va_up w.1 a (some y), w.2) := by
  refine ⟨h.1, fun i => ?_⟩
  by_cases hi : i = a
  · subst hi
    have e : va_up w.1 i (some y) i = some y := if_pos rfl
    show (va_up w.1 i (some y) i).isSome = true ↔ _
    rw [e]
    exact ⟨fun _ => h.pos hx, fun _ => rfl⟩
  · have e : va_up w.1 a (some y) i = w.1 i := if_neg hi
    show (va_up w.1 a (some y) i).isSome = true ↔ _
    rw [e]
    exact h.2 i
theorem ab_dom.push {w : ab_W} (h : ab_dom w) (x : va_E) (k : Nat) : ab_dom (va_up w.1 w.2.1 (some x), w.2.1 + 1, k) := by
  refine ⟨Nat.le_add_left _ _, fun i => ?_⟩
  show (va_up w.1 w.2.1 (some x) i).isSome = true ↔ 0 < i ∧ i < w.2.1 + 1
  by_cases hi : i = w.2.1
  · have e : va_up w.1 w.2.1 (some x) i = some x := if_pos hi
    rw [e]
    have := h.1
    exact ⟨fun _ => ⟨by omega, by omega⟩, fun _ => rfl⟩
  · have e : va_up w.1 w.2.1 (some x) i = w.1 i := if_neg hi
    rw [e, h.2 i]
    omega
/-- a local's value; storing one -/
def ab_at : List (Nat × Value) → Nat → Option Value
  | [], _ => none
  | (j, v) :: t, i => if j = i then some v else ab_at t i
def ab_rm : List (Nat × Value) → Nat → List (Nat × Value)
  | [], _ => []
  | (j, w) :: t, i => if j = i then ab_rm t i else (j, w) :: ab_rm t i
def ab_st : List (Nat × Value) → Nat → Value → List (Nat × Value)
  | [], i, v => [(i, v)]
  | (j, w) :: t, i, v => if j = i then (i, v) :: ab_rm t i else (j, w) :: ab_st t i v
theorem ab_at_mem : ∀ {lv : List (Nat × Value)} {i : Nat} {v : Value}, ab_at lv i = some v → (i, v) ∈ lv
  | [], _, _, h => by simp [ab_at] at h
  | (j, w) :: t, i, v, h => by
    unfold ab_at at h
    split at h
    · rename_i e
      subst e
      cases h
      exact List.mem_cons_self
    · exact List.mem_cons_of_mem _ (ab_at_mem h)
theorem ab_rm_mem : ∀ {lv : List (Nat × Value)} {i : Nat} {q : Nat × Value}, q ∈ ab_rm lv i → q ∈ lv ∧ q.1 ≠ i
  | [], _, _, h => by simp [ab_rm] at h
  | (j, w) :: t, i, q, h => by
    unfold ab_rm at h
    split at h
    · exact ⟨List.mem_cons_of_mem _ (ab_rm_mem h).1, (ab_rm_mem h).2⟩
    · rename_i e
      rcases List.mem_cons.mp h with rfl | h
      · exact ⟨List.mem_cons_self, e⟩
      · exact ⟨List.mem_cons_of_mem _ (ab_rm_mem h).1, (ab_rm_mem h).2⟩
theorem ab_st_mem : ∀ {lv : List (Nat × Value)} {i : Nat} {v : Value} {q : Nat × Value}, q ∈ ab_st lv i v → q = (i, v) ∨ (q ∈ lv ∧ q.1 ≠ i)
  | [], _, _, _, h => by
    simp [ab_st] at h
    exact Or.inl h
  | (j, w) :: t, i, v, q, h => by
    unfold ab_st at h
    split at h
    · rcases List.mem_cons.mp h with rfl | h
      · exact Or.inl rfl
      · exact Or.inr ⟨List.mem_cons_of_mem _ (ab_rm_mem h).1, (ab_rm_mem h).2⟩
    · rename_i e
      rcases List.mem_cons.mp h with rfl | h
      · exact Or.inr ⟨List.mem_cons_self, e⟩
      · rcases ab_st_mem h with h | h
        · exact Or.inl h
        · exact Or.inr ⟨List.mem_cons_of_mem _ h.1, h.2⟩
theorem ab_L.at {G : ab_G} {M : ab_M} {lv : List (Nat × Value)} {ls : Array Slot} (h : ab_L G M lv ls) {i : Nat} {v : Value} (hv : ab_at lv i = some v) : ls[i]? = some (.val (ab_v G v)) :=
  h.1.2.2 (i, ab_v G v) (List.mem_map.mpr ⟨(i, v), ab_at_mem hv, rfl⟩)
theorem ab_L.set {G : ab_G} {M : ab_M} {lv : List (Nat × Value)} {ls : Array Slot} (h : ab_L G M lv ls) {i : Nat} {v : Value} (hc : v.category = 1) {ls2 : Array Slot}
    (h2 : lv_has ls2 M.2.2.1 ((i, ab_v G v) :: (ab_l G lv).filter (fun q => !(q.1 == i) && !(q.1 + 1 == i && q.2.category == 2)))) : ab_L G M (ab_st lv i v) ls2 := by
  refine ⟨⟨h2.1, h2.2.1, fun q hq => ?_⟩, fun q hq => ?_⟩
  · obtain ⟨q0, hq0, rfl⟩ := List.mem_map.mp hq
    rcases ab_st_mem hq0 with rfl | ⟨h3, h4⟩
    · exact h2.2.2 _ List.mem_cons_self
    · refine h2.2.2 (q0.1, ab_v G q0.2) (List.mem_cons_of_mem _ (List.mem_filter.mpr ⟨List.mem_map.mpr ⟨q0, h3, rfl⟩, ?_⟩))
      have h5 := h.2 q0 h3
      simp [h4, ab_cat, h5]
  · rcases ab_st_mem hq with rfl | ⟨h3, -⟩
    · exact hc
    · exact h.2 q h3
