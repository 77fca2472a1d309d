/-! The reference: its object (69), its arrays (70 to 81). -/
def mO (w : ab_W) (nl dl fl ln md op pl tk rl : Int32) : Prop := w.1 69 = some (.inr (6, [.int nl, .ref 70, .int dl, .ref 71, .int fl, .ref 72, .ref 73, .ref 74, .ref 75, .ref 76, .int ln, .ref 77, .int md, .ref 78, .int op, .ref 79, .int pl, .int tk, .ref 80, .int rl, .ref 81]))
/-- an array whose first cells hold a row of bytes -/
def mA (w : ab_W) (a cap : Nat) (xs : List Nat) : Prop := xs.length ≤ cap ∧ (∀ x ∈ xs, x < 256) ∧ ∃ f, w.1 a = some (.inl (0, cap, .inl f)) ∧ ∀ j, j < xs.length → f j = nI (xs.getD j 0)
theorem mA.keep {w w2 : ab_W} {a cap : Nat} {xs : List Nat} (h : mA w a cap xs) (hf : w2.1 a = w.1 a) : mA w2 a cap xs := by
  obtain ⟨h1, h2, f, h3, h4⟩ := h
  exact ⟨h1, h2, f, hf.trans h3, h4⟩
theorem mA.fr {w w2 : ab_W} {a b cap : Nat} {xs : List Nat} (h : mA w a cap xs) (hS : rS w w2 69 b) (h1 : a ≠ 69) (h2 : a ≠ b) : mA w2 a cap xs := h.keep (hS.2 a h1 h2)
theorem snoc_f {xs : List Nat} {b : Nat} {f : Nat → Int32} (hf : ∀ j, j < xs.length → f j = nI (xs.getD j 0)) : ∀ j, j < (xs ++ [b]).length → upd f xs.length (nI b) j = nI ((xs ++ [b]).getD j 0) := fun j hj => by
  rw [getD_snoc]
  have hj2 : j < xs.length + 1 := by simpa using hj
  by_cases e : j = xs.length
  · rw [if_pos e, e]; exact if_pos rfl
  · rw [if_neg e, ← hf j (by omega)]; exact if_neg e
theorem snoc_b {xs : List Nat} {b : Nat} (h : ∀ x ∈ xs, x < 256) (hb : b < 256) : ∀ x ∈ xs ++ [b], x < 256 := fun x hx => by
  rcases List.mem_append.mp hx with h1 | h1
  · exact h x h1
  · rw [List.mem_singleton.mp h1]; exact hb
theorem mA.snoc {w w2 : ab_W} {a cap b : Nat} {xs : List Nat} {f : Nat → Int32} (h : mA w a cap xs) (hb : b < 256) (hl : xs.length < cap) (hv : w2.1 a = some (.inl (0, cap, .inl (upd f xs.length (nI b))))) (hf : ∀ j, j < xs.length → f j = nI (xs.getD j 0)) : mA w2 a cap (xs ++ [b]) := ⟨by simp; omega, snoc_b h.2.1 hb, _, hv, snoc_f hf⟩
section MD
variable {G : ab_G} {w : ab_W} {nl dl fl ln md op pl tk rl : Int32} {xs ds : List Nat}
set_option maxRecDepth 100000 in
set_option maxHeartbeats 4000000 in
theorem c_Md_in (v lo hi : Int32) : ab_E G mm_Md_in rr_Md_in 0 [(0, .int v), (1, .int lo), (2, .int hi)] [] w (pP (bI (decide (lo ≤ v ∧ v ≤ hi))) w) := by
  refine e_iload_n dd_Md_in_0 rfl ?_
  refine e_iload_n dd_Md_in_1 rfl ?_
  refine e_icmp_lt (tgt := 14) dd_Md_in_2 (by decide) (fun c2 => ?_) (fun c2 => ?_)
  · refine e_iconst_n 0 dd_Md_in_14 (by decide) ?_
    exact e_zret dd_Md_in_15 rfl (by decide) (pP_of (bI_f (decide_eq_false (fun h => absurd c2 (Int32.not_lt.mpr h.1)))))
  · refine e_iload_n dd_Md_in_5 rfl ?_
    refine e_iload_n dd_Md_in_6 rfl ?_
    refine e_icmp_gt (tgt := 14) dd_Md_in_7 (by decide) (fun c7 => ?_) (fun c7 => ?_)
    · refine e_iconst_n 0 dd_Md_in_14 (by decide) ?_
      exact e_zret dd_Md_in_15 rfl (by decide) (pP_of (bI_f (decide_eq_false (fun h => absurd c7 (Int32.not_lt.mpr h.2)))))
    · refine e_iconst_n 1 dd_Md_in_10 (by decide) ?_
      refine e_goto (tgt := 15) dd_Md_in_11 (by decide) ?_
      exact e_zret dd_Md_in_15 rfl (by decide) (pP_of (bI_t (decide_eq_true ⟨Int32.not_lt.mp c2, Int32.not_lt.mp c7⟩)))
set_option maxRecDepth 100000 in
set_option maxHeartbeats 4000000 in
theorem c_Md_sign (x : Int32) : ab_E G mm_Md_sign rr_Md_sign 0 [(0, .int x)] [] w (pP (bI (nchI x)) w) := by
  refine e_iload_n dd_Md_sign_0 rfl ?_
  refine e_bipush_n 97 dd_Md_sign_1 (by decide) ?_
  refine e_bipush_n 122 dd_Md_sign_3 (by decide) ?_
  refine e_callSp (d1 := rr_Md_in) (As := [.int x, .int (nI 97), .int (nI 122)]) (st := []) dd_Md_sign_5 km_Md_50 (by decide) rfl (Nat.le_of_ble_eq_true rfl) (Nat.le_of_ble_eq_true rfl) rfl rfl (c_Md_in x (nI 97) (nI 122)) ?_
  refine e_if_ne_b (tgt := 23) dd_Md_sign_8 (by decide) (fun c8 => ?_) (fun c8 => ?_)
  · refine e_iconst_n 1 dd_Md_sign_23 (by decide) ?_
    refine e_goto (tgt := 28) dd_Md_sign_24 (by decide) ?_
    exact e_zret dd_Md_sign_28 rfl (by decide) (pP_of (bI_t (decide_eq_true (Or.inl (of_decide_eq_true c8)))))
  · refine e_iload_n dd_Md_sign_11 rfl ?_
    refine e_bipush_n 46 dd_Md_sign_12 (by decide) ?_
    refine e_icmp_eq (tgt := 23) dd_Md_sign_14 (by decide) (fun c14 => ?_) (fun c14 => ?_)
    · refine e_iconst_n 1 dd_Md_sign_23 (by decide) ?_
      refine e_goto (tgt := 28) dd_Md_sign_24 (by decide) ?_
      exact e_zret dd_Md_sign_28 rfl (by decide) (pP_of (bI_t (decide_eq_true (Or.inr (Or.inl c14)))))
    · refine e_iload_n dd_Md_sign_17 rfl ?_
      refine e_bipush_n 47 dd_Md_sign_18 (by decide) ?_
      refine e_icmp_ne (tgt := 27) dd_Md_sign_20 (by decide) (fun c20 => ?_) (fun c20 => ?_)
      · refine e_iconst_n 0 dd_Md_sign_27 (by decide) ?_
        exact e_zret dd_Md_sign_28 rfl (by decide) (pP_of (bI_f (decide_eq_false (fun h => h.elim (of_decide_eq_false c8) (fun h => h.elim c14 c20)))))
      · refine e_iconst_n 1 dd_Md_sign_23 (by decide) ?_
        refine e_goto (tgt := 28) dd_Md_sign_24 (by decide) ?_
        exact e_zret dd_Md_sign_28 rfl (by decide) (pP_of (bI_t (decide_eq_true (Or.inr (Or.inr c20)))))
set_option maxRecDepth 100000 in
set_option maxHeartbeats 4000000 in
theorem c_Md_push {b : Nat} (h : mO w nl dl fl ln md op pl tk (nI xs.length)) (hA : mA w 81 400 xs) (hb : b < 256) (hl : xs.length < 400) : ab_E G mm_Md_push rr_Md_push 0 [(0, .ref 69), (1, .int (nI b))] [] w (pV fun w2 => rS w w2 69 81 ∧ mO w2 nl dl fl ln md op pl tk (nI (xs ++ [b]).length) ∧ mA w2 81 400 (xs ++ [b])) := by
  have h69 : w.1 69 = _ := h
  obtain ⟨-, -, f, ha, hf⟩ := id hA
  refine e_aload_n dd_Md_push_0 rfl ?_
  refine e_get dd_Md_push_1 kf_Md_47 h69 rfl ?_
  refine e_aload_n dd_Md_push_4 rfl ?_
  refine e_get dd_Md_push_5 kf_Md_67 h69 rfl ?_
  refine e_iload_n dd_Md_push_8 rfl ?_
  refine e_iastx dd_Md_push_9 ha rfl rfl (by omega) (by decide) (fun w1 h2n h2v h2f => ?_)
  refine e_aload_n dd_Md_push_10 rfl ?_
  refine e_dup dd_Md_push_11 rfl ?_
  refine e_get dd_Md_push_12 kf_Md_67 ((h2f _ (by decide)).trans h69) rfl ?_
  refine e_iconst_n 1 dd_Md_push_15 (by decide) ?_
  refine e_iadd_n dd_Md_push_16 ?_
  refine e_putx (fs1 := [.int nl, .ref 70, .int dl, .ref 71, .int fl, .ref 72, .ref 73, .ref 74, .ref 75, .ref 76, .int ln, .ref 77, .int md, .ref 78, .int op, .ref 79, .int pl, .int tk, .ref 80, .int (nI (xs.length + 1)), .ref 81]) dd_Md_push_17 kf_Md_67 ((h2f _ (by decide)).trans h69) (Nat.le_of_ble_eq_true rfl) rfl rfl rfl (fun w3 h4n h4v h4f => ?_)
  have e1 : nI (xs.length + 1) = nI (xs ++ [b]).length := by simp
  exact e_vret dd_Md_push_20 rfl (pV_of ⟨⟨h4n.trans h2n, fun i h1 h2 => (h4f i h1).trans (h2f i h2)⟩, by rw [← e1]; exact h4v, hA.snoc hb hl ((h4f 81 (by decide)).trans h2v) hf⟩)
set_option maxRecDepth 100000 in
set_option maxHeartbeats 4000000 in
theorem c_Md_say {b : Nat} (h : mO w nl dl fl ln (nI ds.length) op pl tk rl) (hA : mA w 78 1200 ds) (hb : b < 256) (hl : ds.length < 1200) : ab_E G mm_Md_say rr_Md_say 0 [(0, .ref 69), (1, .int (nI b))] [] w (pV fun w2 => rS w w2 69 78 ∧ mO w2 nl dl fl ln (nI (ds ++ [b]).length) op pl tk rl ∧ mA w2 78 1200 (ds ++ [b])) := by
  have h69 : w.1 69 = _ := h
  obtain ⟨-, -, f, ha, hf⟩ := id hA
  refine e_aload_n dd_Md_say_0 rfl ?_
  refine e_get dd_Md_say_1 kf_Md_34 h69 rfl ?_
  refine e_aload_n dd_Md_say_4 rfl ?_
  refine e_get dd_Md_say_5 kf_Md_96 h69 rfl ?_
  refine e_iload_n dd_Md_say_8 rfl ?_
  refine e_iastx dd_Md_say_9 ha rfl rfl (by omega) (by decide) (fun w1 h2n h2v h2f => ?_)
  refine e_aload_n dd_Md_say_10 rfl ?_
  refine e_dup dd_Md_say_11 rfl ?_
  refine e_get dd_Md_say_12 kf_Md_96 ((h2f _ (by decide)).trans h69) rfl ?_
  refine e_iconst_n 1 dd_Md_say_15 (by decide) ?_
  refine e_iadd_n dd_Md_say_16 ?_
  refine e_putx (fs1 := [.int nl, .ref 70, .int dl, .ref 71, .int fl, .ref 72, .ref 73, .ref 74, .ref 75, .ref 76, .int ln, .ref 77, .int (nI (ds.length + 1)), .ref 78, .int op, .ref 79, .int pl, .int tk, .ref 80, .int rl, .ref 81]) dd_Md_say_17 kf_Md_96 ((h2f _ (by decide)).trans h69) (Nat.le_of_ble_eq_true rfl) rfl rfl rfl (fun w3 h4n h4v h4f => ?_)
  have e1 : nI (ds.length + 1) = nI (ds ++ [b]).length := by simp
  exact e_vret dd_Md_say_20 rfl (pV_of ⟨⟨h4n.trans h2n, fun i h1 h2 => (h4f i h1).trans (h2f i h2)⟩, by rw [← e1]; exact h4v, hA.snoc hb hl ((h4f 78 (by decide)).trans h2v) hf⟩)
set_option maxRecDepth 100000 in
set_option maxHeartbeats 4000000 in
theorem c_Md_sayTwo {v : Nat} (h : mO w nl dl fl ln (nI ds.length) op pl tk rl) (hA : mA w 78 1200 ds) (hv : v < 65536) (hl : ds.length + 2 ≤ 1200) : ab_E G mm_Md_sayTwo rr_Md_sayTwo 0 [(0, .ref 69), (1, .int (nI v))] [] w (pV fun w2 => rS w w2 69 78 ∧ mO w2 nl dl fl ln (nI (ds ++ [v / 256, v % 256]).length) op pl tk rl ∧ mA w2 78 1200 (ds ++ [v / 256, v % 256])) := by
  have h69 : w.1 69 = _ := h
  refine e_aload_n dd_Md_sayTwo_0 rfl ?_
  refine e_iload_n dd_Md_sayTwo_1 rfl ?_
  refine e_bipush_n 8 dd_Md_sayTwo_2 (by decide) ?_
  refine e_ishr_n dd_Md_sayTwo_4 (by omega) (by decide) ?_
  refine e_callVv (d1 := rr_Md_say) (As := [.int (nI (v / 2 ^ 8))]) (st := []) dd_Md_sayTwo_5 km_Md_99 h69 rfl (by decide) rfl (Nat.le_of_ble_eq_true rfl) (Nat.le_of_ble_eq_true rfl) rfl rfl (c_Md_say h hA (by omega) (by omega)) (fun v1 k1 => ?_)
  obtain ⟨k1s, k1o, k1a⟩ := k1
  have h69b : v1.1 69 = _ := k1o
  refine e_aload_n dd_Md_sayTwo_8 rfl ?_
  refine e_iload_n dd_Md_sayTwo_9 rfl ?_
  refine e_sipush_n 255 dd_Md_sayTwo_10 (by decide) ?_
  refine e_iand_n 8 dd_Md_sayTwo_13 (by omega) (by decide) ?_
  refine e_callVv (d1 := rr_Md_say) (As := [.int (nI (v % 2 ^ 8))]) (st := []) dd_Md_sayTwo_14 km_Md_99 h69b rfl (by decide) rfl (Nat.le_of_ble_eq_true rfl) (Nat.le_of_ble_eq_true rfl) rfl rfl (c_Md_say k1o k1a (by omega) (by simp; omega)) (fun v2 k2 => ?_)
  obtain ⟨k2s, k2o, k2a⟩ := k2
  have e1 : ds ++ [v / 256, v % 256] = ds ++ [v / 2 ^ 8] ++ [v % 2 ^ 8] := by simp
  exact e_vret dd_Md_sayTwo_17 rfl (pV_of (by rw [e1]; exact ⟨k1s.tr k2s, k2o, k2a⟩))
set_option maxRecDepth 100000 in
set_option maxHeartbeats 4000000 in
theorem l_Md_sayRow {ds0 : List Nat} (hl : ds0.length + xs.length ≤ 1200) (hR : mA w 81 400 xs) : ∀ (k i : Nat) (w1 : ab_W), i + k = xs.length → mO w1 nl dl fl ln (nI (ds0 ++ xs.take i).length) op pl tk (nI xs.length) → mA w1 78 1200 (ds0 ++ xs.take i) → rS w w1 69 78 → ab_E G mm_Md_sayRow rr_Md_sayRow 2 [(0, .ref 69), (1, .int (nI i))] [] w1 (pV fun w2 => rS w w2 69 78 ∧ mO w2 nl dl fl ln (nI (ds0 ++ xs).length) op pl tk (nI xs.length) ∧ mA w2 78 1200 (ds0 ++ xs)) := by
  intro k
  induction k with
  | zero =>
    intro i w1 hi h hA hS
    have h69 : w1.1 69 = _ := h
    have hx := hR.1
    have e0 : xs.take i = xs := List.take_of_length_le (by omega)
    refine e_iload_n dd_Md_sayRow_2 rfl ?_
    refine e_aload_n dd_Md_sayRow_3 rfl ?_
    refine e_get dd_Md_sayRow_4 kf_Md_67 h69 rfl ?_
    refine e_icmp_ge_n (tgt := 26) dd_Md_sayRow_7 (by decide) (by omega) (by omega) (fun _ => ?_) (fun h9 => absurd h9 (by omega))
    rw [e0] at h hA
    exact e_vret dd_Md_sayRow_26 rfl (pV_of ⟨hS, h, hA⟩)
  | succ k ih =>
    intro i w1 hi h hA hS
    have h69 : w1.1 69 = _ := h
    obtain ⟨hx, hb, f, ha, hf⟩ := hR.fr hS (by decide) (by decide)
    have hil : i < xs.length := by omega
    refine e_iload_n dd_Md_sayRow_2 rfl ?_
    refine e_aload_n dd_Md_sayRow_3 rfl ?_
    refine e_get dd_Md_sayRow_4 kf_Md_67 h69 rfl ?_
    refine e_icmp_ge_n (tgt := 26) dd_Md_sayRow_7 (by decide) (by omega) (by omega) (fun h9 => absurd h9 (by omega)) (fun _ => ?_)
    refine e_aload_n dd_Md_sayRow_10 rfl ?_
    refine e_aload_n dd_Md_sayRow_11 rfl ?_
    refine e_get dd_Md_sayRow_12 kf_Md_47 h69 rfl ?_
    refine e_iload_n dd_Md_sayRow_15 rfl ?_
    refine e_iald dd_Md_sayRow_16 ha rfl rfl (by omega) (by decide) ?_
    refine e_top (y := nI (xs.getD i 0)) (hf i hil) ?_
    refine e_callVv (d1 := rr_Md_say) (As := [.int (nI (xs.getD i 0))]) (st := []) dd_Md_sayRow_17 km_Md_99 h69 rfl (by decide) rfl (Nat.le_of_ble_eq_true rfl) (Nat.le_of_ble_eq_true rfl) rfl rfl (c_Md_say h hA (getD_lt hb hil) (by rw [List.length_append, List.length_take]; omega)) (fun v1 k1 => ?_)
    refine e_iinc_n (a := i) (k := 1) (lv1 := [(0, .ref 69), (1, .int (nI (i + 1)))]) dd_Md_sayRow_20 rfl (by decide) (by decide) rfl ?_
    refine e_goto (tgt := 2) dd_Md_sayRow_23 (by decide) ?_
    have e1 : ds0 ++ xs.take i ++ [xs.getD i 0] = ds0 ++ xs.take (i + 1) := by
      rw [List.append_assoc, take_snoc (f := xs.getD i 0) (by rw [List.getD_eq_getElem?_getD, List.getElem?_eq_getElem hil]; rfl)]
    rw [e1] at k1
    exact ih (i + 1) v1 (by omega) k1.2.1 k1.2.2 (hS.tr k1.1)
set_option maxRecDepth 100000 in
set_option maxHeartbeats 4000000 in
theorem c_Md_sayRow (h : mO w nl dl fl ln (nI ds.length) op pl tk (nI xs.length)) (hA : mA w 78 1200 ds) (hR : mA w 81 400 xs) (hl : ds.length + xs.length ≤ 1200) : ab_E G mm_Md_sayRow rr_Md_sayRow 0 [(0, .ref 69)] [] w (pV fun w2 => rS w w2 69 78 ∧ mO w2 nl dl fl ln (nI (ds ++ xs).length) op pl tk (nI xs.length) ∧ mA w2 78 1200 (ds ++ xs)) := by
  refine e_iconst_n 0 dd_Md_sayRow_0 (by decide) ?_
  refine e_istore_n (lv1 := [(0, .ref 69), (1, .int (nI 0))]) dd_Md_sayRow_1 (by decide) rfl ?_
  exact l_Md_sayRow (ds0 := ds) hl hR xs.length 0 w (by omega) (by simpa using h) (by simpa using hA) rS.rf
set_option maxRecDepth 100000 in
set_option maxHeartbeats 4000000 in
theorem c_Md_stop (h : mO w nl dl fl ln md op pl tk rl) (code x : Int32) : ab_E G mm_Md_stop rr_Md_stop 0 [(0, .ref 69), (1, .int code), (2, .int x)] [] w (pI code fun w2 => rS w w2 69 69 ∧ mO w2 nl dl fl ln md op x tk rl) := by
  have h69 : w.1 69 = _ := h
  refine e_aload_n dd_Md_stop_0 rfl ?_
  refine e_iload_n dd_Md_stop_1 rfl ?_
  refine e_putx (fs1 := [.int nl, .ref 70, .int dl, .ref 71, .int fl, .ref 72, .ref 73, .ref 74, .ref 75, .ref 76, .int ln, .ref 77, .int md, .ref 78, .int op, .ref 79, .int x, .int tk, .ref 80, .int rl, .ref 81]) dd_Md_stop_2 kf_Md_40 h69 (Nat.le_of_ble_eq_true rfl) rfl rfl rfl (fun w1 h2n h2v h2f => ?_)
  refine e_iload_n dd_Md_stop_5 rfl ?_
  exact e_iret dd_Md_stop_6 rfl (pI_of rfl ⟨⟨h2n, fun i h1 _ => h2f i h1⟩, h2v⟩)
set_option maxRecDepth 100000 in
set_option maxHeartbeats 4000000 in
theorem c_Md_two {im : List Nat} {c : Nat} (h : mO w nl dl fl ln md op pl tk rl) (hI : mA w 77 600 im) (hc : c + 1 < im.length) : ab_E G mm_Md_two rr_Md_two 0 [(0, .ref 69), (1, .int (nI c))] [] w (pP (nI (nm2 im c)) w) := by
  have h69 : w.1 69 = _ := h
  obtain ⟨hl, hb, f, ha, hf⟩ := id hI
  have hx := getD_lt hb (j := c) (by omega)
  have hy := getD_lt hb (j := c + 1) (by omega)
  refine e_sipush_n 256 dd_Md_two_0 (by decide) ?_
  refine e_aload_n dd_Md_two_3 rfl ?_
  refine e_get dd_Md_two_4 kf_Md_31 h69 rfl ?_
  refine e_iload_n dd_Md_two_7 rfl ?_
  refine e_iald dd_Md_two_8 ha rfl rfl (by omega) (by decide) ?_
  refine e_top (y := nI (im.getD c 0)) (hf c (by omega)) ?_
  refine e_imul_n dd_Md_two_9 ?_
  refine e_aload_n dd_Md_two_10 rfl ?_
  refine e_get dd_Md_two_11 kf_Md_31 h69 rfl ?_
  refine e_iload_n dd_Md_two_14 rfl ?_
  refine e_iconst_n 1 dd_Md_two_15 (by decide) ?_
  refine e_iadd_n dd_Md_two_16 ?_
  refine e_iald dd_Md_two_17 ha rfl rfl (by omega) (by decide) ?_
  refine e_top (y := nI (im.getD (c + 1) 0)) (hf _ (by omega)) ?_
  refine e_iadd_n dd_Md_two_18 ?_
  exact e_iret dd_Md_two_19 rfl (pP_of (by rw [nm2, Nat.mul_comm]))
theorem xor_m2 (x y : Nat) : (x ^^^ y) % 2 ^ 1 = (x % 2) ^^^ (y % 2) := Nat.xor_mod_two_pow
set_option maxRecDepth 100000 in
set_option maxHeartbeats 4000000 in
theorem l_Md_checked {b : Nat} {c0 : Int32} (hb : b < 256) : ∀ (n c : Nat) (lv : List (Nat × Value)), n ≤ 8 → c < 65536 → (∃ z, lv = [(0, .int c0), (1, .int (nI b)), (2, .int (nI c)), (3, .int (nI n + (-1))), (4, .int z)]) ∨ lv = [(0, .int c0), (1, .int (nI b)), (2, .int (nI c)), (3, .int (nI n + (-1)))] → ab_E G mm_Md_checked rr_Md_checked 5 lv [] w (pP (nI (c8 c b n)) w) := by
  intro n
  induction n with
  | zero =>
    intro c lv hn hc hlv
    have hlv : ab_E G mm_Md_checked rr_Md_checked 5 [(0, .int c0), (1, .int (nI b)), (2, .int (nI c)), (3, .int (nI 0 + (-1)))] [] w (pP (nI (c8 c b 0)) w) → ab_E G mm_Md_checked rr_Md_checked 5 lv [] w (pP (nI (c8 c b 0)) w) := fun hh => by
      rcases hlv with ⟨z, rfl⟩ | rfl
      · exact e_rm 4 rfl hh
      · exact hh
    refine hlv ?_
    refine e_iload_n dd_Md_checked_5 rfl ?_
    refine e_if_lt (tgt := 46) dd_Md_checked_6 (by decide) (fun _ => ?_) (fun h9 => absurd h9 (by decide))
    refine e_iload_n dd_Md_checked_46 rfl ?_
    exact e_iret dd_Md_checked_47 rfl (pP_of rfl)
  | succ n ih =>
    intro c lv hn hc hlv
    have hlv : ab_E G mm_Md_checked rr_Md_checked 5 [(0, .int c0), (1, .int (nI b)), (2, .int (nI c)), (3, .int (nI (n + 1) + (-1)))] [] w (pP (nI (c8 c b (n + 1))) w) → ab_E G mm_Md_checked rr_Md_checked 5 lv [] w (pP (nI (c8 c b (n + 1))) w) := fun hh => by
      rcases hlv with ⟨z, rfl⟩ | rfl
      · exact e_rm 4 rfl hh
      · exact hh
    refine hlv ?_
    rw [pk_m1]
    have hx : b / 2 ^ n < 256 := Nat.lt_of_le_of_lt (Nat.div_le_self _ _) hb
    have hy : c / 2 ^ 15 < 65536 := Nat.lt_of_le_of_lt (Nat.div_le_self _ _) hc
    have hxy : (b / 2 ^ n) ^^^ (c / 2 ^ 15) < 65536 := Nat.xor_lt_two_pow (n := 16) (by omega) hy
    have ec : c8 c b (n + 1) = c8 (cb c b n) b n := rfl
    rw [ec, cb, ← xor_m2]
    refine e_iload_n dd_Md_checked_5 rfl ?_
    refine e_if_lt_n (tgt := 46) dd_Md_checked_6 (by decide) (by omega) ?_
    refine e_iload_n dd_Md_checked_9 rfl ?_
    refine e_iload_n dd_Md_checked_10 rfl ?_
    refine e_ishr dd_Md_checked_11 ?_
    refine e_top (y := nI (b / 2 ^ n)) (pk_shrN (by omega) _ n (s_l n (by omega))) ?_
    refine e_iload_n dd_Md_checked_12 rfl ?_
    refine e_bipush_n 15 dd_Md_checked_13 (by decide) ?_
    refine e_ishr_n dd_Md_checked_15 (by omega) (by decide) ?_
    refine e_ixor dd_Md_checked_16 ?_
    refine e_top (y := nI (b / 2 ^ n ^^^ c / 2 ^ 15)) (nx_xor _ _) ?_
    refine e_iconst_n 1 dd_Md_checked_17 (by decide) ?_
    refine e_iand_n 1 dd_Md_checked_18 (by omega) (by decide) ?_
    refine e_istore (lv1 := [(0, .int c0), (1, .int (nI b)), (2, .int (nI c)), (3, .int (nI n)), (4, .int (nI ((b / 2 ^ n ^^^ c / 2 ^ 15) % 2 ^ 1)))]) dd_Md_checked_19 (by decide) rfl ?_
    refine e_iload_n dd_Md_checked_21 rfl ?_
    refine e_iconst_n 2 dd_Md_checked_22 (by decide) ?_
    refine e_imul_n dd_Md_checked_23 ?_
    refine e_ldc (v := 65535) dd_Md_checked_24 ww_606 ?_
    refine e_top (y := nI 65535) (by decide) ?_
    refine e_iand_n 16 dd_Md_checked_26 (by omega) (by decide) ?_
    refine e_istore_n (lv1 := [(0, .int c0), (1, .int (nI b)), (2, .int (nI ((c * 2) % 2 ^ 16))), (3, .int (nI n)), (4, .int (nI ((b / 2 ^ n ^^^ c / 2 ^ 15) % 2 ^ 1)))]) dd_Md_checked_27 (by decide) rfl ?_
    refine e_iload dd_Md_checked_28 rfl ?_
    refine e_iconst_n 1 dd_Md_checked_30 (by decide) ?_
    refine e_icmp_ne_n (tgt := 40) dd_Md_checked_31 (by decide) (by omega) (by omega) (fun c31 => ?_) (fun c31 => ?_)
    · refine e_iinc (v := nI n + (-1)) (lv1 := [(0, .int c0), (1, .int (nI b)), (2, .int (nI ((c * 2) % 2 ^ 16))), (3, .int (nI n + (-1))), (4, .int (nI ((b / 2 ^ n ^^^ c / 2 ^ 15) % 2 ^ 1)))]) dd_Md_checked_40 rfl (by decide) rfl rfl ?_
      refine e_goto (tgt := 5) dd_Md_checked_43 (by decide) ?_
      rw [if_neg c31, Nat.xor_zero]
      exact ih _ _ (by omega) (Nat.mod_lt _ (by decide)) (Or.inl ⟨_, rfl⟩)
    · refine e_iload_n dd_Md_checked_34 rfl ?_
      refine e_sipush_n 4129 dd_Md_checked_35 (by decide) ?_
      refine e_ixor dd_Md_checked_38 ?_
      refine e_top (y := nI (c * 2 % 2 ^ 16 ^^^ 4129)) (nx_xor _ _) ?_
      refine e_istore_n (lv1 := [(0, .int c0), (1, .int (nI b)), (2, .int (nI (c * 2 % 2 ^ 16 ^^^ 4129))), (3, .int (nI n)), (4, .int (nI ((b / 2 ^ n ^^^ c / 2 ^ 15) % 2 ^ 1)))]) dd_Md_checked_39 (by decide) rfl ?_
      refine e_iinc (v := nI n + (-1)) (lv1 := [(0, .int c0), (1, .int (nI b)), (2, .int (nI (c * 2 % 2 ^ 16 ^^^ 4129))), (3, .int (nI n + (-1))), (4, .int (nI ((b / 2 ^ n ^^^ c / 2 ^ 15) % 2 ^ 1)))]) dd_Md_checked_40 rfl (by decide) rfl rfl ?_
      refine e_goto (tgt := 5) dd_Md_checked_43 (by decide) ?_
      rw [if_pos c31]
      exact ih _ _ (by omega) (Nat.xor_lt_two_pow (n := 16) (Nat.mod_lt _ (by decide)) (by decide)) (Or.inl ⟨_, rfl⟩)
set_option maxRecDepth 100000 in
set_option maxHeartbeats 4000000 in
theorem c_Md_checked {c b : Nat} (hc : c < 65536) (hb : b < 256) : ab_E G mm_Md_checked rr_Md_checked 0 [(0, .int (nI c)), (1, .int (nI b))] [] w (pP (nI (c1 c b)) w) := by
  refine e_iload_n dd_Md_checked_0 rfl ?_
  refine e_istore_n (lv1 := [(0, .int (nI c)), (1, .int (nI b)), (2, .int (nI c))]) dd_Md_checked_1 (by decide) rfl ?_
  refine e_bipush_n 7 dd_Md_checked_2 (by decide) ?_
  refine e_istore_n (lv1 := [(0, .int (nI c)), (1, .int (nI b)), (2, .int (nI c)), (3, .int (nI 7))]) dd_Md_checked_4 (by decide) rfl ?_
  exact l_Md_checked hb 8 c _ (by omega) hc (Or.inr rfl)
end MD
