/-! Squeezing by copies. -/
/-- how long a copy at p over a distance d is -/
def cl (xs : List Nat) (p d : Nat) : Nat → Nat → Nat
  | 0, n => n
  | k + 1, n => if p + n < xs.length ∧ d ≤ p + n ∧ xs.getD (p + n) 0 = xs.getD (p + n - d) 0 then cl xs p d k (n + 1) else n
def clen (xs : List Nat) (p d : Nat) : Nat := cl xs p d 34 0
theorem cl_le (xs : List Nat) (p d : Nat) : ∀ k n, n ≤ cl xs p d k n ∧ cl xs p d k n ≤ n + k ∧ (p + n ≤ xs.length → p + cl xs p d k n ≤ xs.length)
  | 0, n => ⟨Nat.le_refl _, Nat.le_refl _, id⟩
  | k + 1, n => by
    unfold cl
    split
    · rename_i h
      obtain ⟨h1, h2, h3⟩ := cl_le xs p d k (n + 1)
      exact ⟨by omega, by omega, fun _ => h3 (by omega)⟩
    · exact ⟨by omega, by omega, id⟩
/-- the least distance of the longest copies, from distance d on -/
def bd (xs : List Nat) (p : Nat) : Nat → Nat → Nat → Nat → Nat
  | 0, _, b, _ => b
  | k + 1, d, b, l => if d ≤ p then (if l < clen xs p d then bd xs p k (d + 1) d (clen xs p d) else bd xs p k (d + 1) b l) else b
def best (xs : List Nat) (p : Nat) : Nat := bd xs p 32 1 1 0
theorem bd_in (xs : List Nat) (p : Nat) : ∀ k d b l, 1 ≤ b → b ≤ 32 → 1 ≤ d → d + k = 33 → 1 ≤ bd xs p k d b l ∧ bd xs p k d b l ≤ 32
  | 0, d, b, l, h1, h2, _, _ => ⟨h1, h2⟩
  | k + 1, d, b, l, h1, h2, h3, h4 => by
    unfold bd
    split
    · split
      · exact bd_in xs p k (d + 1) d _ h3 (by omega) (by omega) (by omega)
      · exact bd_in xs p k (d + 1) b l h1 h2 (by omega) (by omega)
    · exact ⟨h1, h2⟩
theorem best_in (xs : List Nat) (p : Nat) : 1 ≤ best xs p ∧ best xs p ≤ 32 := bd_in xs p 32 1 1 0 (by decide) (by decide) (by decide) (by decide)
/-- literals from place i up to e -/
def ltP (xs : List Nat) (e : Nat) : Nat → Nat → List Nat
  | 0, _ => []
  | k + 1, i => if i < e then (min 32 (e - i) - 1) :: ((xs.drop i).take (min 32 (e - i)) ++ ltP xs e k (i + 32)) else []
def lits (xs : List Nat) (f e : Nat) : List Nat := ltP xs e (e - f) f
theorem ltP_len (xs : List Nat) (e : Nat) : ∀ k i, (ltP xs e k i).length ≤ 2 * (e - i)
  | 0, i => by simp [ltP]
  | k + 1, i => by
    unfold ltP
    split
    · rename_i h
      have h1 := ltP_len xs e k (i + 32)
      have h2 : ((xs.drop i).take (min 32 (e - i))).length ≤ min 32 (e - i) := by rw [List.length_take]; omega
      rw [List.length_cons, List.length_append]
      omega
    · simp
/-- from place p on, literals waiting from place f on -/
def cpF (xs : List Nat) : Nat → Nat → Nat → List Nat
  | 0, p, f => lits xs f p
  | k + 1, p, f => if p < xs.length then (if 3 ≤ clen xs p (best xs p) then lits xs f p ++ ([29 + clen xs p (best xs p), best xs p - 1] ++ cpF xs k (p + clen xs p (best xs p)) (p + clen xs p (best xs p))) else cpF xs k (p + 1) f) else lits xs f p
def copies (xs : List Nat) : List Nat := cpF xs xs.length 0 0
theorem cpF_len (xs : List Nat) : ∀ k p f, f ≤ p → p ≤ xs.length → (cpF xs k p f).length ≤ 2 * (xs.length - f)
  | 0, p, f, h1, h2 => by
    have h3 := ltP_len xs p (p - f) f
    show (lits xs f p).length ≤ _
    unfold lits
    omega
  | k + 1, p, f, h1, h2 => by
    have h3 := ltP_len xs p (p - f) f
    unfold cpF
    split
    · split
      · obtain ⟨g1, g2, g3⟩ := cl_le xs p (best xs p) 34 0
        have g4 := g3 (by omega)
        rename_i h4 h5
        have g5 := cpF_len xs k (p + clen xs p (best xs p)) (p + clen xs p (best xs p)) (Nat.le_refl _) g4
        rw [List.length_append, List.length_append]
        have g6 : ([29 + clen xs p (best xs p), best xs p - 1] : List Nat).length = 2 := rfl
        have g7 : p + clen xs p (best xs p) ≤ xs.length := g4
        show (ltP xs p (p - f) f).length + _ ≤ _
        omega
      · exact cpF_len xs k (p + 1) f (by omega) (by omega)
    · show (lits xs f p).length ≤ _
      unfold lits
      omega
theorem copies_len (xs : List Nat) : (copies xs).length ≤ 2 * xs.length := cpF_len xs xs.length 0 0 (Nat.le_refl _) (Nat.zero_le _)
section SQ
variable {G : ab_G} {w : ab_W} {r a cap r2 a2 cap2 : Nat} {xs : List Nat}
theorem rbI_neg {i : Int32} (h : i < 0) : rbI xs i = -1 := if_pos h
theorem l_Sq_copyLength (h : cR w r a cap xs) {p d : Nat} (hp : p ≤ xs.length) (hd : d ≤ 32) : ∀ k n, n + k = 34 → ab_E G mm_Sq_copyLength rr_Sq_copyLength 2 [(0, .ref r), (1, .int (nI p)), (2, .int (nI d)), (3, .int (nI n))] [] w (pP (nI (cl xs p d k n)) w) := by
  have hr := h.obj
  have hby := h.2.2.2.2.1
  have hlt := h.lt
  intro k
  induction k with
  | zero =>
    intro n hn
    refine e_iload_n dd_Sq_copyLength_2 rfl ?_
    refine e_bipush_n 34 dd_Sq_copyLength_3 (by decide) ?_
    refine e_icmp_ge_n (tgt := 43) dd_Sq_copyLength_5 (by decide) (by omega) (by omega) (fun _ => ?_) (fun h9 => absurd h9 (by omega))
    refine e_iload_n dd_Sq_copyLength_43 rfl ?_
    exact e_iret dd_Sq_copyLength_44 rfl (pP_of rfl)
  | succ k ih =>
    intro n hn
    unfold cl
    refine e_iload_n dd_Sq_copyLength_2 rfl ?_
    refine e_bipush_n 34 dd_Sq_copyLength_3 (by decide) ?_
    refine e_icmp_ge_n (tgt := 43) dd_Sq_copyLength_5 (by decide) (by omega) (by omega) (fun h9 => absurd h9 (by omega)) (fun _ => ?_)
    refine e_iload_n dd_Sq_copyLength_8 rfl ?_
    refine e_iload_n dd_Sq_copyLength_9 rfl ?_
    refine e_iadd_n dd_Sq_copyLength_10 ?_
    refine e_aload_n dd_Sq_copyLength_11 rfl ?_
    refine e_get dd_Sq_copyLength_12 kf_Sq_28 hr rfl ?_
    refine e_icmp_ge_n (tgt := 43) dd_Sq_copyLength_15 (by decide) (by omega) (by omega) (fun c15 => ?_) (fun c15 => ?_)
    · refine e_iload_n dd_Sq_copyLength_43 rfl ?_
      exact e_iret dd_Sq_copyLength_44 rfl (pP_of (by rw [if_neg (by omega)]))
    · refine e_aload_n dd_Sq_copyLength_18 rfl ?_
      refine e_iload_n dd_Sq_copyLength_19 rfl ?_
      refine e_iload_n dd_Sq_copyLength_20 rfl ?_
      refine e_iadd_n dd_Sq_copyLength_21 ?_
      refine e_callVp (d1 := rr_Row_at) (As := [.int (nI (p + n))]) (st := []) dd_Sq_copyLength_22 km_Sq_32 hr rfl (by decide) rfl (Nat.le_of_ble_eq_true rfl) (Nat.le_of_ble_eq_true rfl) rfl rfl (c_Row_ati h c15) ?_
      refine e_aload_n dd_Sq_copyLength_25 rfl ?_
      refine e_iload_n dd_Sq_copyLength_26 rfl ?_
      refine e_iload_n dd_Sq_copyLength_27 rfl ?_
      refine e_iadd_n dd_Sq_copyLength_28 ?_
      refine e_iload_n dd_Sq_copyLength_29 rfl ?_
      refine e_isub dd_Sq_copyLength_30 ?_
      refine e_callVp (d1 := rr_Row_at) (As := [.int ((nI (p + n)) - (nI d))]) (st := [.int (nI (xs.getD (p + n) 0))]) dd_Sq_copyLength_31 km_Sq_32 hr rfl (by decide) rfl (Nat.le_of_ble_eq_true rfl) (Nat.le_of_ble_eq_true rfl) rfl rfl (c_Row_at h (nI (p + n) - nI d)) ?_
      have g1 := getD_lt hby c15
      by_cases e1 : d ≤ p + n
      · rw [pk_sub e1, rbI_n (by omega), rb_in (by omega)]
        have g2 := getD_lt hby (j := p + n - d) (by omega)
        refine e_icmp_ne_n (tgt := 43) dd_Sq_copyLength_34 (by decide) (by omega) (by omega) (fun c34 => ?_) (fun c34 => ?_)
        · refine e_iload_n dd_Sq_copyLength_43 rfl ?_
          exact e_iret dd_Sq_copyLength_44 rfl (pP_of (by rw [if_neg (fun e => c34 e.2.2)]))
        · refine e_iinc_n (a := n) (k := 1) (lv1 := [(0, .ref r), (1, .int (nI p)), (2, .int (nI d)), (3, .int (nI (n + 1)))]) dd_Sq_copyLength_37 rfl (by decide) (by decide) rfl ?_
          refine e_goto (tgt := 2) dd_Sq_copyLength_40 (by decide) ?_
          rw [if_pos ⟨c15, e1, c34⟩]
          exact ih (n + 1) (by omega)
      · rw [rbI_neg (pk_sneg (by omega) (by omega))]
        refine e_icmp_ne (tgt := 43) dd_Sq_copyLength_34 (by decide) (fun _ => ?_) (fun h9 => absurd h9 (fun h8 => neg1_ne (by omega) h8.symm))
        refine e_iload_n dd_Sq_copyLength_43 rfl ?_
        exact e_iret dd_Sq_copyLength_44 rfl (pP_of (by rw [if_neg (fun e => e1 e.2.1)]))
theorem c_Sq_copyLength (h : cR w r a cap xs) {p d : Nat} (hp : p ≤ xs.length) (hd : d ≤ 32) : ab_E G mm_Sq_copyLength rr_Sq_copyLength 0 [(0, .ref r), (1, .int (nI p)), (2, .int (nI d))] [] w (pP (nI (clen xs p d)) w) := by
  refine e_iconst_n 0 dd_Sq_copyLength_0 (by decide) ?_
  refine e_istore_n (lv1 := [(0, .ref r), (1, .int (nI p)), (2, .int (nI d)), (3, .int (nI 0))]) dd_Sq_copyLength_1 (by decide) rfl ?_
  exact l_Sq_copyLength h hp hd 34 0 (by decide)
theorem l_Sq_bestDistance (h : cR w r a cap xs) {p : Nat} (hp : p ≤ xs.length) : ∀ k d b l, d + k = 33 → b ≤ 32 → l ≤ 34 → ab_E G mm_Sq_bestDistance rr_Sq_bestDistance 7 [(0, .ref r), (1, .int (nI p)), (2, .int (nI b)), (3, .int (nI l)), (4, .int (nI d))] [] w (pP (nI (bd xs p k d b l)) w) := by
  have hr := h.obj
  have hlt := h.lt
  intro k
  induction k with
  | zero =>
    intro d b l hd hb hl
    refine e_iload dd_Sq_bestDistance_7 rfl ?_
    refine e_bipush_n 32 dd_Sq_bestDistance_9 (by decide) ?_
    refine e_icmp_gt_n (tgt := 47) dd_Sq_bestDistance_11 (by decide) (by omega) (by omega) (fun _ => ?_) (fun h9 => absurd h9 (by omega))
    refine e_iload_n dd_Sq_bestDistance_47 rfl ?_
    exact e_iret dd_Sq_bestDistance_48 rfl (pP_of rfl)
  | succ k ih =>
    intro d b l hd hb hl
    unfold bd
    have g1 := cl_le xs p d 34 0
    refine e_iload dd_Sq_bestDistance_7 rfl ?_
    refine e_bipush_n 32 dd_Sq_bestDistance_9 (by decide) ?_
    refine e_icmp_gt_n (tgt := 47) dd_Sq_bestDistance_11 (by decide) (by omega) (by omega) (fun h9 => absurd h9 (by omega)) (fun _ => ?_)
    refine e_iload dd_Sq_bestDistance_14 rfl ?_
    refine e_iload_n dd_Sq_bestDistance_16 rfl ?_
    refine e_icmp_gt_n (tgt := 47) dd_Sq_bestDistance_17 (by decide) (by omega) (by omega) (fun c17 => ?_) (fun c17 => ?_)
    · refine e_iload_n dd_Sq_bestDistance_47 rfl ?_
      exact e_iret dd_Sq_bestDistance_48 rfl (pP_of (by rw [if_neg (by omega)]))
    · rw [if_pos c17]
      have g2 : clen xs p d ≤ 34 := by have := g1.2.1; unfold clen; omega
      refine e_aload_n dd_Sq_bestDistance_20 rfl ?_
      refine e_iload_n dd_Sq_bestDistance_21 rfl ?_
      refine e_iload dd_Sq_bestDistance_22 rfl ?_
      refine e_callSp (d1 := rr_Sq_copyLength) (As := [.ref r, .int (nI p), .int (nI d)]) (st := []) dd_Sq_bestDistance_24 km_Sq_48 (by decide) rfl (Nat.le_of_ble_eq_true rfl) (Nat.le_of_ble_eq_true rfl) rfl rfl (c_Sq_copyLength h hp (by omega)) ?_
      refine e_istore (lv1 := [(0, .ref r), (1, .int (nI p)), (2, .int (nI b)), (3, .int (nI l)), (4, .int (nI d)), (5, .int (nI (clen xs p d)))]) dd_Sq_bestDistance_27 (by decide) rfl ?_
      refine e_iload dd_Sq_bestDistance_29 rfl ?_
      refine e_iload_n dd_Sq_bestDistance_31 rfl ?_
      refine e_icmp_le_n (tgt := 41) dd_Sq_bestDistance_32 (by decide) (by omega) (by omega) (fun c32 => ?_) (fun c32 => ?_)
      · refine e_iinc_n (a := d) (k := 1) (lv1 := [(0, .ref r), (1, .int (nI p)), (2, .int (nI b)), (3, .int (nI l)), (4, .int (nI (d + 1))), (5, .int (nI (clen xs p d)))]) dd_Sq_bestDistance_41 rfl (by decide) (by decide) rfl ?_
        refine e_goto (tgt := 7) dd_Sq_bestDistance_44 (by decide) ?_
        refine e_rm (lv1 := [(0, .ref r), (1, .int (nI p)), (2, .int (nI b)), (3, .int (nI l)), (4, .int (nI (d + 1)))]) 5 rfl ?_
        rw [if_neg (by omega)]
        exact ih (d + 1) b l (by omega) hb hl
      · refine e_iload dd_Sq_bestDistance_35 rfl ?_
        refine e_istore_n (lv1 := [(0, .ref r), (1, .int (nI p)), (2, .int (nI b)), (3, .int (nI (clen xs p d))), (4, .int (nI d)), (5, .int (nI (clen xs p d)))]) dd_Sq_bestDistance_37 (by decide) rfl ?_
        refine e_iload dd_Sq_bestDistance_38 rfl ?_
        refine e_istore_n (lv1 := [(0, .ref r), (1, .int (nI p)), (2, .int (nI d)), (3, .int (nI (clen xs p d))), (4, .int (nI d)), (5, .int (nI (clen xs p d)))]) dd_Sq_bestDistance_40 (by decide) rfl ?_
        refine e_iinc_n (a := d) (k := 1) (lv1 := [(0, .ref r), (1, .int (nI p)), (2, .int (nI d)), (3, .int (nI (clen xs p d))), (4, .int (nI (d + 1))), (5, .int (nI (clen xs p d)))]) dd_Sq_bestDistance_41 rfl (by decide) (by decide) rfl ?_
        refine e_goto (tgt := 7) dd_Sq_bestDistance_44 (by decide) ?_
        refine e_rm (lv1 := [(0, .ref r), (1, .int (nI p)), (2, .int (nI d)), (3, .int (nI (clen xs p d))), (4, .int (nI (d + 1)))]) 5 rfl ?_
        rw [if_pos c32]
        exact ih (d + 1) d (clen xs p d) (by omega) (by omega) g2
theorem c_Sq_bestDistance (h : cR w r a cap xs) {p : Nat} (hp : p ≤ xs.length) : ab_E G mm_Sq_bestDistance rr_Sq_bestDistance 0 [(0, .ref r), (1, .int (nI p))] [] w (pP (nI (best xs p)) w) := by
  refine e_iconst_n 1 dd_Sq_bestDistance_0 (by decide) ?_
  refine e_istore_n (lv1 := [(0, .ref r), (1, .int (nI p)), (2, .int (nI 1))]) dd_Sq_bestDistance_1 (by decide) rfl ?_
  refine e_iconst_n 0 dd_Sq_bestDistance_2 (by decide) ?_
  refine e_istore_n (lv1 := [(0, .ref r), (1, .int (nI p)), (2, .int (nI 1)), (3, .int (nI 0))]) dd_Sq_bestDistance_3 (by decide) rfl ?_
  refine e_iconst_n 1 dd_Sq_bestDistance_4 (by decide) ?_
  refine e_istore (lv1 := [(0, .ref r), (1, .int (nI p)), (2, .int (nI 1)), (3, .int (nI 0)), (4, .int (nI 1))]) dd_Sq_bestDistance_5 (by decide) rfl ?_
  exact l_Sq_bestDistance h hp 32 1 1 0 (by decide) (by decide) (by decide)
theorem nI_min {x y : Nat} (hx : x < 2 ^ 31) (hy : y < 2 ^ 31) : (if nI y < nI x then nI y else nI x) = nI (min x y) := by
  by_cases h : y < x
  · rw [if_pos (nI_lt h hx)]; congr 1; omega
  · rw [if_neg (nI_nlt (by omega) hy)]; congr 1; omega
theorem l_Sq_appendLiterals (h : cR w r a cap xs) (n1 : r ≠ r2) (n2 : r ≠ a2) (n3 : a ≠ r2) (n4 : a ≠ a2) {b e : Nat} (he : e ≤ xs.length) (tot : List Nat) (htot : tot.length ≤ cap2) : ∀ (k i : Nat) (w1 : ab_W) (acc : List Nat), e ≤ i + 32 * k → i ≤ 200000 → acc ++ ltP xs e k i = tot → rS w w1 r2 a2 → cR w1 r2 a2 cap2 acc → ab_E G mm_Sq_appendLiterals rr_Sq_appendLiterals 3 [(0, .ref r), (1, .int (nI b)), (2, .int (nI e)), (3, .ref r2), (4, .int (nI i))] [] w1 (pV fun w2 => rS w w2 r2 a2 ∧ cR w2 r2 a2 cap2 tot) := by
  have hlt := h.lt
  intro k
  induction k with
  | zero =>
    intro i w1 acc hk hi ht hS h2
    refine e_iload dd_Sq_appendLiterals_3 rfl ?_
    refine e_iload_n dd_Sq_appendLiterals_5 rfl ?_
    refine e_icmp_ge_n (tgt := 48) dd_Sq_appendLiterals_6 (by decide) (by omega) (by omega) (fun _ => ?_) (fun h9 => absurd h9 (by omega))
    exact e_vret dd_Sq_appendLiterals_48 rfl (pV_of ⟨hS, by rw [← ht, ltP, List.append_nil]; exact h2⟩)
  | succ k ih =>
    intro i w1 acc hk hi ht hS h2
    have h1 := h.fr hS n1 n2 n3 n4
    have hr2 := h2.obj
    unfold ltP at ht
    refine e_iload dd_Sq_appendLiterals_3 rfl ?_
    refine e_iload_n dd_Sq_appendLiterals_5 rfl ?_
    refine e_icmp_ge_n (tgt := 48) dd_Sq_appendLiterals_6 (by decide) (by omega) (by omega) (fun c6 => ?_) (fun c6 => ?_)
    · exact e_vret dd_Sq_appendLiterals_48 rfl (pV_of ⟨hS, by rw [← ht, if_neg (by omega), List.append_nil]; exact h2⟩)
    · rw [if_pos c6] at ht
      have e0 : ((xs.drop i).take (min 32 (e - i))).length = min 32 (e - i) := by rw [List.length_take, List.length_drop]; omega
      have e7 := congrArg List.length ht
      rw [List.length_append, List.length_cons, List.length_append, e0] at e7
      refine e_bipush_n 32 dd_Sq_appendLiterals_9 (by decide) ?_
      refine e_iload_n dd_Sq_appendLiterals_11 rfl ?_
      refine e_iload dd_Sq_appendLiterals_12 rfl ?_
      refine e_isub_n dd_Sq_appendLiterals_14 (by omega) ?_
      refine e_mmin dd_Sq_appendLiterals_15 km_Sq_56 ⟨by decide, Nat.le_of_ble_eq_true rfl⟩ ?_
      refine e_top (y := nI (min 32 (e - i))) (nI_min (by decide) (by omega)) ?_
      generalize hme : min 32 (e - i) = m at ht e0 e7 ⊢
      have hm : 1 ≤ m ∧ m ≤ 32 ∧ m ≤ e - i := by omega
      refine e_istore (lv1 := [(0, .ref r), (1, .int (nI b)), (2, .int (nI e)), (3, .ref r2), (4, .int (nI i)), (5, .int (nI m))]) dd_Sq_appendLiterals_18 (by decide) rfl ?_
      refine e_aload_n dd_Sq_appendLiterals_20 rfl ?_
      refine e_iload dd_Sq_appendLiterals_21 rfl ?_
      refine e_iconst_n 1 dd_Sq_appendLiterals_23 (by decide) ?_
      refine e_isub_n dd_Sq_appendLiterals_24 (by omega) ?_
      refine e_callVi (d1 := rr_Row_append) (As := [.int (nI (m - 1))]) (st := []) dd_Sq_appendLiterals_25 km_Sq_40 hr2 rfl (by decide) rfl (Nat.le_of_ble_eq_true rfl) (Nat.le_of_ble_eq_true rfl) rfl rfl (c_Row_app h2 (by omega) (by omega)) (fun w5 h5 => ?_)
      have hr2 := h5.2.obj
      have h6 := h1.fr h5.1 n1 n2 n3 n4
      have e5 : (acc ++ [m - 1]).length = acc.length + 1 := by simp
      refine e_pop dd_Sq_appendLiterals_28 rfl ?_
      refine e_aload_n dd_Sq_appendLiterals_29 rfl ?_
      refine e_aload_n dd_Sq_appendLiterals_30 rfl ?_
      refine e_iload dd_Sq_appendLiterals_31 rfl ?_
      refine e_iload dd_Sq_appendLiterals_33 rfl ?_
      refine e_iload dd_Sq_appendLiterals_35 rfl ?_
      refine e_iadd_n dd_Sq_appendLiterals_37 ?_
      refine e_callVi (d1 := rr_Row_appendPart) (As := [.ref r, .int (nI i), .int (nI (i + m))]) (st := []) dd_Sq_appendLiterals_38 km_Sq_62 hr2 rfl (by decide) rfl (Nat.le_of_ble_eq_true rfl) (Nat.le_of_ble_eq_true rfl) rfl rfl (c_Row_part h5.2 h6 n1.symm n4.symm (by omega) (by omega) (by omega)) (fun w6 h7 => ?_)
      have h8 := h7.2
      rw [show i + m - i = m by omega] at h8
      refine e_pop dd_Sq_appendLiterals_41 rfl ?_
      refine e_iinc_n (a := i) (k := 32) (lv1 := [(0, .ref r), (1, .int (nI b)), (2, .int (nI e)), (3, .ref r2), (4, .int (nI (i + 32))), (5, .int (nI m))]) dd_Sq_appendLiterals_42 rfl (by decide) (by decide) rfl ?_
      refine e_goto (tgt := 3) dd_Sq_appendLiterals_45 (by decide) ?_
      refine e_rm (lv1 := [(0, .ref r), (1, .int (nI b)), (2, .int (nI e)), (3, .ref r2), (4, .int (nI (i + 32)))]) 5 rfl ?_
      exact ih (i + 32) _ _ (by omega) (by omega) (by rw [← ht]; simp) (hS.tr (h5.1.tr h7.1)) h8
theorem c_Sq_appendLiterals {acc : List Nat} (h : cR w r a cap xs) (h2 : cR w r2 a2 cap2 acc) (n1 : r ≠ r2) (n4 : a ≠ a2) {b e : Nat} (hb : b ≤ e) (he : e ≤ xs.length) (hl : (acc ++ lits xs b e).length ≤ cap2) : ab_E G mm_Sq_appendLiterals rr_Sq_appendLiterals 0 [(0, .ref r), (1, .int (nI b)), (2, .int (nI e)), (3, .ref r2)] [] w (pV fun w2 => rS w w2 r2 a2 ∧ cR w2 r2 a2 cap2 (acc ++ lits xs b e)) := by
  have n2 := h.ne_oa h2
  have n3 := (h2.ne_oa h).symm
  have hlt := h.lt
  refine e_iload_n dd_Sq_appendLiterals_0 rfl ?_
  refine e_istore (lv1 := [(0, .ref r), (1, .int (nI b)), (2, .int (nI e)), (3, .ref r2), (4, .int (nI b))]) dd_Sq_appendLiterals_1 (by decide) rfl ?_
  exact l_Sq_appendLiterals h n1 n2 n3 n4 he _ hl (e - b) b w acc (by omega) (by omega) rfl rS.rf h2
theorem l_Sq_copies (h : cR w r a cap xs) (n1 : r ≠ r2) (n2 : r ≠ a2) (n3 : a ≠ r2) (n4 : a ≠ a2) (tot : List Nat) (htot : tot.length ≤ cap2) : ∀ (k p f : Nat) (w1 : ab_W) (acc : List Nat), xs.length ≤ p + k → f ≤ p → p ≤ xs.length → acc ++ cpF xs k p f = tot → rS w w1 r2 a2 → cR w1 r2 a2 cap2 acc → ab_E G mm_Sq_squeezeCopies rr_Sq_squeezeCopies 4 [(0, .ref r), (1, .ref r2), (2, .int (nI (p - f))), (3, .int (nI p))] [] w1 (pV fun w2 => rS w w2 r2 a2 ∧ cR w2 r2 a2 cap2 tot) := by
  have hlt := h.lt
  have fin : ∀ (p f : Nat) (w1 : ab_W) (acc : List Nat), f ≤ p → p ≤ xs.length → acc ++ lits xs f p = tot → rS w w1 r2 a2 → cR w1 r2 a2 cap2 acc → ab_E G mm_Sq_squeezeCopies rr_Sq_squeezeCopies 83 [(0, .ref r), (1, .ref r2), (2, .int (nI (p - f))), (3, .int (nI p))] [] w1 (pV fun w2 => rS w w2 r2 a2 ∧ cR w2 r2 a2 cap2 tot) := by
    intro p f w1 acc hf hp ht hS h2
    have h1 := h.fr hS n1 n2 n3 n4
    refine e_aload_n dd_Sq_squeezeCopies_83 rfl ?_
    refine e_iload_n dd_Sq_squeezeCopies_84 rfl ?_
    refine e_iload_n dd_Sq_squeezeCopies_85 rfl ?_
    refine e_isub_n dd_Sq_squeezeCopies_86 (by omega) ?_
    refine e_top (y := nI f) (by congr 1; omega) ?_
    refine e_iload_n dd_Sq_squeezeCopies_87 rfl ?_
    refine e_aload_n dd_Sq_squeezeCopies_88 rfl ?_
    refine e_callSv (d1 := rr_Sq_appendLiterals) (As := [.ref r, .int (nI f), .int (nI p), .ref r2]) (st := []) dd_Sq_squeezeCopies_89 km_Sq_52 (by decide) rfl (Nat.le_of_ble_eq_true rfl) (Nat.le_of_ble_eq_true rfl) rfl rfl (c_Sq_appendLiterals h1 h2 n1 n4 hf hp (by rw [ht]; exact htot)) (fun w5 h5 => ?_)
    exact e_vret dd_Sq_squeezeCopies_92 rfl (pV_of ⟨hS.tr h5.1, by rw [← ht]; exact h5.2⟩)
  intro k
  induction k with
  | zero =>
    intro p f w1 acc hk hf hp ht hS h2
    have hr := (h.fr hS n1 n2 n3 n4).obj
    refine e_iload_n dd_Sq_squeezeCopies_4 rfl ?_
    refine e_aload_n dd_Sq_squeezeCopies_5 rfl ?_
    refine e_get dd_Sq_squeezeCopies_6 kf_Sq_28 hr rfl ?_
    refine e_icmp_ge_n (tgt := 83) dd_Sq_squeezeCopies_9 (by decide) (by omega) (by omega) (fun _ => ?_) (fun h9 => absurd h9 (by omega))
    exact fin p f w1 acc hf hp ht hS h2
  | succ k ih =>
    intro p f w1 acc hk hf hp ht hS h2
    have h1 := h.fr hS n1 n2 n3 n4
    have hr := h1.obj
    unfold cpF at ht
    refine e_iload_n dd_Sq_squeezeCopies_4 rfl ?_
    refine e_aload_n dd_Sq_squeezeCopies_5 rfl ?_
    refine e_get dd_Sq_squeezeCopies_6 kf_Sq_28 hr rfl ?_
    refine e_icmp_ge_n (tgt := 83) dd_Sq_squeezeCopies_9 (by decide) (by omega) (by omega) (fun c9 => ?_) (fun c9 => ?_)
    · rw [if_neg (by omega)] at ht
      exact fin p f w1 acc hf hp ht hS h2
    · rw [if_pos c9] at ht
      obtain ⟨b1, b2⟩ := best_in xs p
      obtain ⟨g1, g2, g3⟩ := cl_le xs p (best xs p) 34 0
      have g4 := g3 (by omega)
      rw [show cl xs p (best xs p) 34 0 = clen xs p (best xs p) from rfl] at g2 g4
      refine e_aload_n dd_Sq_squeezeCopies_12 rfl ?_
      refine e_iload_n dd_Sq_squeezeCopies_13 rfl ?_
      refine e_callSp (d1 := rr_Sq_bestDistance) (As := [.ref r, .int (nI p)]) (st := []) dd_Sq_squeezeCopies_14 km_Sq_44 (by decide) rfl (Nat.le_of_ble_eq_true rfl) (Nat.le_of_ble_eq_true rfl) rfl rfl (c_Sq_bestDistance h1 hp) ?_
      refine e_istore (lv1 := [(0, .ref r), (1, .ref r2), (2, .int (nI (p - f))), (3, .int (nI p)), (4, .int (nI (best xs p)))]) dd_Sq_squeezeCopies_17 (by decide) rfl ?_
      refine e_aload_n dd_Sq_squeezeCopies_19 rfl ?_
      refine e_iload_n dd_Sq_squeezeCopies_20 rfl ?_
      refine e_iload dd_Sq_squeezeCopies_21 rfl ?_
      refine e_callSp (d1 := rr_Sq_copyLength) (As := [.ref r, .int (nI p), .int (nI (best xs p))]) (st := []) dd_Sq_squeezeCopies_23 km_Sq_48 (by decide) rfl (Nat.le_of_ble_eq_true rfl) (Nat.le_of_ble_eq_true rfl) rfl rfl (c_Sq_copyLength h1 hp b2) ?_
      generalize hn : clen xs p (best xs p) = n at ht g2 g4 ⊢
      generalize hbe : best xs p = b at ht b1 b2 ⊢
      refine e_istore (lv1 := [(0, .ref r), (1, .ref r2), (2, .int (nI (p - f))), (3, .int (nI p)), (4, .int (nI b)), (5, .int (nI n))]) dd_Sq_squeezeCopies_26 (by decide) rfl ?_
      refine e_iload dd_Sq_squeezeCopies_28 rfl ?_
      refine e_iconst_n 3 dd_Sq_squeezeCopies_30 (by decide) ?_
      refine e_icmp_lt_n (tgt := 74) dd_Sq_squeezeCopies_31 (by decide) (by omega) (by omega) (fun c31 => ?_) (fun c31 => ?_)
      · refine e_iinc (v := nI (p + 1 - f)) (lv1 := [(0, .ref r), (1, .ref r2), (2, .int (nI (p + 1 - f))), (3, .int (nI p)), (4, .int (nI b)), (5, .int (nI n))]) dd_Sq_squeezeCopies_74 rfl (by decide) (by rw [show Int32.ofInt 1 = nI 1 by decide, nI_add]; congr 1; omega) rfl ?_
        refine e_iinc_n (a := p) (k := 1) (lv1 := [(0, .ref r), (1, .ref r2), (2, .int (nI (p + 1 - f))), (3, .int (nI (p + 1))), (4, .int (nI b)), (5, .int (nI n))]) dd_Sq_squeezeCopies_77 rfl (by decide) (by decide) rfl ?_
        refine e_goto (tgt := 4) dd_Sq_squeezeCopies_80 (by decide) ?_
        refine e_rm (lv1 := [(0, .ref r), (1, .ref r2), (2, .int (nI (p + 1 - f))), (3, .int (nI (p + 1))), (5, .int (nI n))]) 4 rfl ?_
        refine e_rm (lv1 := [(0, .ref r), (1, .ref r2), (2, .int (nI (p + 1 - f))), (3, .int (nI (p + 1)))]) 5 rfl ?_
        rw [if_neg (by omega)] at ht
        exact ih (p + 1) f w1 acc (by omega) (by omega) (by omega) ht hS h2
      · rw [if_pos c31] at ht
        have e7 := congrArg List.length ht
        rw [List.length_append, List.length_append, List.length_append] at e7
        have e6 : ([29 + n, b - 1] : List Nat).length = 2 := rfl
        refine e_aload_n dd_Sq_squeezeCopies_34 rfl ?_
        refine e_iload_n dd_Sq_squeezeCopies_35 rfl ?_
        refine e_iload_n dd_Sq_squeezeCopies_36 rfl ?_
        refine e_isub_n dd_Sq_squeezeCopies_37 (by omega) ?_
        refine e_top (y := nI f) (by congr 1; omega) ?_
        refine e_iload_n dd_Sq_squeezeCopies_38 rfl ?_
        refine e_aload_n dd_Sq_squeezeCopies_39 rfl ?_
        refine e_callSv (d1 := rr_Sq_appendLiterals) (As := [.ref r, .int (nI f), .int (nI p), .ref r2]) (st := []) dd_Sq_squeezeCopies_40 km_Sq_52 (by decide) rfl (Nat.le_of_ble_eq_true rfl) (Nat.le_of_ble_eq_true rfl) rfl rfl (c_Sq_appendLiterals h1 h2 n1 n4 hf hp (by rw [List.length_append]; omega)) (fun w5 h5 => ?_)
        have hr2 := h5.2.obj
        have e5 : (acc ++ lits xs f p).length = acc.length + (lits xs f p).length := by simp
        generalize hacc : acc ++ lits xs f p = ac2 at h5 hr2 e5
        refine e_iconst_n 0 dd_Sq_squeezeCopies_43 (by decide) ?_
        refine e_istore_n (lv1 := [(0, .ref r), (1, .ref r2), (2, .int (nI 0)), (3, .int (nI p)), (4, .int (nI b)), (5, .int (nI n))]) dd_Sq_squeezeCopies_44 (by decide) rfl ?_
        refine e_aload_n dd_Sq_squeezeCopies_45 rfl ?_
        refine e_bipush_n 32 dd_Sq_squeezeCopies_46 (by decide) ?_
        refine e_iload dd_Sq_squeezeCopies_48 rfl ?_
        refine e_iadd_n dd_Sq_squeezeCopies_50 ?_
        refine e_iconst_n 3 dd_Sq_squeezeCopies_51 (by decide) ?_
        refine e_isub_n dd_Sq_squeezeCopies_52 (by omega) ?_
        refine e_top (y := nI (29 + n)) (by congr 1; omega) ?_
        refine e_callVi (d1 := rr_Row_append) (As := [.int (nI (29 + n))]) (st := []) dd_Sq_squeezeCopies_53 km_Sq_40 hr2 rfl (by decide) rfl (Nat.le_of_ble_eq_true rfl) (Nat.le_of_ble_eq_true rfl) rfl rfl (c_Row_app h5.2 (by omega) (by omega)) (fun w6 h6 => ?_)
        have hr2 := h6.2.obj
        have e4 : (ac2 ++ [29 + n]).length = ac2.length + 1 := by simp
        refine e_pop dd_Sq_squeezeCopies_56 rfl ?_
        refine e_aload_n dd_Sq_squeezeCopies_57 rfl ?_
        refine e_iload dd_Sq_squeezeCopies_58 rfl ?_
        refine e_iconst_n 1 dd_Sq_squeezeCopies_60 (by decide) ?_
        refine e_isub_n dd_Sq_squeezeCopies_61 (by omega) ?_
        refine e_callVi (d1 := rr_Row_append) (As := [.int (nI (b - 1))]) (st := []) dd_Sq_squeezeCopies_62 km_Sq_40 hr2 rfl (by decide) rfl (Nat.le_of_ble_eq_true rfl) (Nat.le_of_ble_eq_true rfl) rfl rfl (c_Row_app h6.2 (by omega) (by omega)) (fun w7 h7 => ?_)
        refine e_pop dd_Sq_squeezeCopies_65 rfl ?_
        refine e_iload_n dd_Sq_squeezeCopies_66 rfl ?_
        refine e_iload dd_Sq_squeezeCopies_67 rfl ?_
        refine e_iadd_n dd_Sq_squeezeCopies_69 ?_
        refine e_istore_n (lv1 := [(0, .ref r), (1, .ref r2), (2, .int (nI 0)), (3, .int (nI (p + n))), (4, .int (nI b)), (5, .int (nI n))]) dd_Sq_squeezeCopies_70 (by decide) rfl ?_
        refine e_goto (tgt := 80) dd_Sq_squeezeCopies_71 (by decide) ?_
        refine e_goto (tgt := 4) dd_Sq_squeezeCopies_80 (by decide) ?_
        refine e_rm (lv1 := [(0, .ref r), (1, .ref r2), (2, .int (nI 0)), (3, .int (nI (p + n))), (5, .int (nI n))]) 4 rfl ?_
        refine e_rm (lv1 := [(0, .ref r), (1, .ref r2), (2, .int (nI 0)), (3, .int (nI (p + n)))]) 5 rfl ?_
        have K := ih (p + n) (p + n) _ _ (by omega) (Nat.le_refl _) g4 (by rw [← ht, ← hacc]; simp) (hS.tr (h5.1.tr (h6.1.tr h7.1))) h7.2
        rw [Nat.sub_self] at K
        exact K
theorem c_Sq_squeezeCopies (h : cR w r a cap xs) (h2 : cR w r2 a2 cap2 []) (n1 : r ≠ r2) (n4 : a ≠ a2) (hl : (copies xs).length ≤ cap2) : ab_E G mm_Sq_squeezeCopies rr_Sq_squeezeCopies 0 [(0, .ref r), (1, .ref r2)] [] w (pV fun w2 => rS w w2 r2 a2 ∧ cR w2 r2 a2 cap2 (copies xs)) := by
  have n2 := h.ne_oa h2
  have n3 := (h2.ne_oa h).symm
  refine e_iconst_n 0 dd_Sq_squeezeCopies_0 (by decide) ?_
  refine e_istore_n (lv1 := [(0, .ref r), (1, .ref r2), (2, .int (nI 0))]) dd_Sq_squeezeCopies_1 (by decide) rfl ?_
  refine e_iconst_n 0 dd_Sq_squeezeCopies_2 (by decide) ?_
  refine e_istore_n (lv1 := [(0, .ref r), (1, .ref r2), (2, .int (nI 0)), (3, .int (nI 0))]) dd_Sq_squeezeCopies_3 (by decide) rfl ?_
  exact l_Sq_copies h n1 n2 n3 n4 (copies xs) hl xs.length 0 0 w [] (by omega) (Nat.le_refl _) (Nat.zero_le _) rfl rS.rf h2
/-- a row squeezed by a method -/
def sqz (m : Nat) (xs : List Nat) : List Nat := if m = 1 then runs xs else if m = 2 then copies xs else xs
theorem sqz_len (m : Nat) (xs : List Nat) : (sqz m xs).length ≤ 2 * xs.length := by
  unfold sqz
  split
  · exact runs_len xs
  · split
    · exact copies_len xs
    · omega
theorem c_Sq_squeeze {ys : List Nat} {m : Nat} (hm : m < 100) (h : cR w r a cap xs) (h2 : cR w r2 a2 cap2 ys) (n1 : r ≠ r2) (n4 : a ≠ a2) (hl : 2 * xs.length ≤ cap2) : ab_E G mm_Sq_squeeze rr_Sq_squeeze 0 [(0, .int (nI m)), (1, .ref r), (2, .ref r2)] [] w (pV fun w2 => rS w w2 r2 a2 ∧ cR w2 r2 a2 cap2 (sqz m xs)) := by
  have n2 := h.ne_oa h2
  have n3 := (h2.ne_oa h).symm
  have hr2 := h2.obj
  have hz := sqz_len m xs
  refine e_aload_n dd_Sq_squeeze_0 rfl ?_
  refine e_iconst_n 0 dd_Sq_squeeze_1 (by decide) ?_
  refine e_callVv (d1 := rr_Row_cutTo) (As := [.int (nI 0)]) (st := []) dd_Sq_squeeze_2 km_Sq_9 hr2 rfl (by decide) rfl (Nat.le_of_ble_eq_true rfl) (Nat.le_of_ble_eq_true rfl) rfl rfl (c_Row_cutTo h2 (k := 0) (by decide)) (fun w1 h3 => ?_)
  have h4 := h3.2
  rw [List.take_zero] at h4
  have hr2 := h4.obj
  have h1 := h.fr h3.1 n1 n2 n3 n4
  refine e_iload_n dd_Sq_squeeze_5 rfl ?_
  refine e_iconst_n 1 dd_Sq_squeeze_6 (by decide) ?_
  refine e_icmp_ne_n (tgt := 18) dd_Sq_squeeze_7 (by decide) (by omega) (by omega) (fun c7 => ?_) (fun c7 => ?_)
  · refine e_iload_n dd_Sq_squeeze_18 rfl ?_
    refine e_iconst_n 2 dd_Sq_squeeze_19 (by decide) ?_
    refine e_icmp_ne_n (tgt := 31) dd_Sq_squeeze_20 (by decide) (by omega) (by omega) (fun c20 => ?_) (fun c20 => ?_)
    · refine e_aload_n dd_Sq_squeeze_31 rfl ?_
      refine e_aload_n dd_Sq_squeeze_32 rfl ?_
      refine e_callVv (d1 := rr_Row_appendAll) (As := [.ref r]) (st := []) dd_Sq_squeeze_33 km_Sq_24 hr2 rfl (by decide) rfl (Nat.le_of_ble_eq_true rfl) (Nat.le_of_ble_eq_true rfl) rfl rfl (c_Row_appendAll h4 h1 n1.symm n4.symm (by simp; omega)) (fun w2 h5 => ?_)
      exact e_vret dd_Sq_squeeze_36 rfl (pV_of ⟨h3.1.tr h5.1, by rw [sqz, if_neg c7, if_neg c20]; exact h5.2⟩)
    · rw [sqz, if_neg c7, if_pos c20] at hz
      refine e_aload_n dd_Sq_squeeze_23 rfl ?_
      refine e_aload_n dd_Sq_squeeze_24 rfl ?_
      refine e_callSv (d1 := rr_Sq_squeezeCopies) (As := [.ref r, .ref r2]) (st := []) dd_Sq_squeeze_25 km_Sq_21 (by decide) rfl (Nat.le_of_ble_eq_true rfl) (Nat.le_of_ble_eq_true rfl) rfl rfl (c_Sq_squeezeCopies h1 h4 n1 n4 (by omega)) (fun w2 h5 => ?_)
      refine e_goto (tgt := 36) dd_Sq_squeeze_28 (by decide) ?_
      exact e_vret dd_Sq_squeeze_36 rfl (pV_of ⟨h3.1.tr h5.1, by rw [sqz, if_neg c7, if_pos c20]; exact h5.2⟩)
  · rw [sqz, if_pos c7] at hz
    refine e_aload_n dd_Sq_squeeze_10 rfl ?_
    refine e_aload_n dd_Sq_squeeze_11 rfl ?_
    refine e_callSv (d1 := rr_Sq_squeezeRuns) (As := [.ref r, .ref r2]) (st := []) dd_Sq_squeeze_12 km_Sq_15 (by decide) rfl (Nat.le_of_ble_eq_true rfl) (Nat.le_of_ble_eq_true rfl) rfl rfl (c_Sq_squeezeRuns h1 h4 n1 n4 (by omega)) (fun w2 h5 => ?_)
    refine e_goto (tgt := 36) dd_Sq_squeeze_15 (by decide) ?_
    exact e_vret dd_Sq_squeeze_36 rfl (pV_of ⟨h3.1.tr h5.1, by rw [sqz, if_pos c7]; exact h5.2⟩)
end SQ
