/-! The class's constructors. -/
section AB
variable {G : ab_G} {M : ab_M} {d : Nat × Nat} {pc : Nat} {lv : List (Nat × Value)} {st : List Value} {w : ab_W} {P : Option Value → ab_W → Prop}
theorem e_newx {idx ci n z : Nat} {fs : List Value} (hd : decode M.2.1 pc = .ok (.new idx, 3)) (hk : ab_nw M.1.cls idx ci fs) (hn : w.2 = (n, z)) (kk : ∀ w1 : ab_W, w1.2 = (n + 1, z + fs.length) → w1.1 n = some (.inr (ci, fs)) → (∀ i, i ≠ n → w1.1 i = w.1 i) → ab_E G M d (pc + 3) lv (.ref n :: st) w1 P) : ab_E G M d pc lv st w P := by
  obtain ⟨h, n0, z0⟩ := w
  cases hn
  exact e_new hd hk (kk _ rfl (if_pos rfl) (fun _ hi => if_neg hi))
theorem e_newax {t k n z : Nat} {i : Int32} (hd : decode M.2.1 pc = .ok (.newarray .int, 2)) (ht : ab_tys[t]? = some .int) (hk : Cond.arrayClass .int ∈ ab_T) (hi : i = nI k) (hl : k ≤ 100000) (hn : w.2 = (n, z)) (kk : ∀ w1 : ab_W, w1.2 = (n + 1, z + k) → w1.1 n = some (.inl (t, k, .inl (fun _ => 0))) → (∀ i, i ≠ n → w1.1 i = w.1 i) → ab_E G M d (pc + 2) lv (.ref n :: st) w1 P) : ab_E G M d pc lv (.int i :: st) w P := by
  obtain ⟨h, n0, z0⟩ := w
  cases hn
  exact e_newa hd ht hk hi hl (kk _ rfl (if_pos rfl) (fun _ hi => if_neg hi))
theorem e_newqx {t k n z idx : Nat} {i : Int32} {Cn : String} (hd : decode M.2.1 pc = .ok (.anewarray idx, 3)) (ht : ab_tys[t]? = some (.object Cn)) (hk : Cond.classLink M.1.cls idx Cn ∈ ab_T) (ho : Cn ∈ ab_over) (hi : i = nI k) (hl : k ≤ 100000) (hn : w.2 = (n, z)) (kk : ∀ w1 : ab_W, w1.2 = (n + 1, z + k) → w1.1 n = some (.inl (t, k, .inr (.inr (.inr (.inr (fun _ => none)))))) → (∀ i, i ≠ n → w1.1 i = w.1 i) → ab_E G M d (pc + 3) lv (.ref n :: st) w1 P) : ab_E G M d pc lv (.int i :: st) w P := by
  obtain ⟨h, n0, z0⟩ := w
  cases hn
  exact e_newq hd ht hk ho hi hl (kk _ rfl (if_pos rfl) (fun _ hi => if_neg hi))
theorem e_aastx {t a n j ci v : Nat} {q : vw_C} {vs : List Value} {f : Nat → Option Nat} {i : Int32} (hd : decode M.2.1 pc = .ok (.aastore, 1)) (ha : w.1 a = some (.inl (t, n, .inr (.inr (.inr (.inr f)))))) (ht : ab_tys[t]? = some (.object q.1)) (hv : w.1 v = some (.inr (ci, vs))) (hc : vwCl[ci]? = some q) (hi : i = nI j) (hj : j < n) (hn : n < 2 ^ 31) (kk : ∀ w1 : ab_W, w1.2 = w.2 → w1.1 a = some (.inl (t, n, .inr (.inr (.inr (.inr (va_up f j (some v))))))) → (∀ i, i ≠ a → w1.1 i = w.1 i) → ab_E G M d (pc + 1) lv st w1 P) : ab_E G M d pc lv (.ref v :: .int i :: .ref a :: st) w P :=
  e_aast hd ha ht hv hc hi hj hn (kk _ rfl (if_pos rfl) (fun _ hi => if_neg hi))
end AB
section CT
variable {G : ab_G} {w : ab_W}
set_option maxRecDepth 100000 in
set_option maxHeartbeats 4000000 in
theorem c_Row_init {r n z c : Nat} (hr : w.1 r = some (.inr (1, [.null, .int 0]))) (hn : w.2 = (n, z)) (hrn : r ≠ n) (hc : c < 100000) : ab_E G mm_Row_init rr_Row_init 0 [(0, .ref r), (1, .int (nI c))] [] w (pV fun w2 => w2.2 = (n + 1, z + c) ∧ cR w2 r n c [] ∧ ∀ i, i ≠ r → i ≠ n → w2.1 i = w.1 i) := by
  refine e_aload_n dd_Row_init_0 rfl ?_
  refine e_obj dd_Row_init_1 km_Row_3 ⟨by decide, Nat.le_of_ble_eq_true rfl⟩ ?_
  refine e_aload_n dd_Row_init_4 rfl ?_
  refine e_iload_n dd_Row_init_5 rfl ?_
  refine e_newax (t := 0) dd_Row_init_6 rfl ww_40 rfl (by omega) hn (fun w1 h2n h2v h2f => ?_)
  refine e_putFx (fs1 := [.ref n, .int 0]) dd_Row_init_8 kf_Row_9 rfl rfl ((h2f _ hrn).trans hr) (Nat.le_of_ble_eq_true rfl) rfl rfl rfl (fun w3 h4n h4v h4f => ?_)
  refine e_aload_n dd_Row_init_11 rfl ?_
  refine e_iconst_n 0 dd_Row_init_12 (by decide) ?_
  refine e_putx (fs1 := [.ref n, .int (nI 0)]) dd_Row_init_13 kf_Row_15 h4v (Nat.le_of_ble_eq_true rfl) rfl rfl rfl (fun w5 h6n h6v h6f => ?_)
  have hv : w5.1 n = _ := (h6f n hrn.symm).trans ((h4f n hrn.symm).trans h2v)
  exact e_vret dd_Row_init_16 rfl (pV_of ⟨h6n.trans (h4n.trans h2n), ⟨h6v, Nat.zero_le _, hc, hrn, (fun x hx => by cases hx), _, hv, fun j hj => absurd hj (Nat.not_lt_zero j)⟩, fun i h8 h9 => (h6f i h8).trans ((h4f i h8).trans (h2f i h9))⟩)
set_option maxRecDepth 100000 in
set_option maxHeartbeats 4000000 in
theorem c_OF_init {f n z : Nat} (hf : w.1 f = some (.inr (5, [.null, .int 0, .int 0, .int 0, .int 0, .int 0]))) (hn : w.2 = (n, z)) (hfn : f < n) : ab_E G mm_OF_init rr_OF_init 0 [(0, .ref f)] [] w (pV fun w2 => w2.2 = (n + 2, z + 10) ∧ w2.1 f = some (.inr (5, [.ref n, .int 0, .int 0, .int 0, .int 0, .int 0])) ∧ cR w2 n (n + 1) 8 [] ∧ ∀ i, i ≠ f → i ≠ n → i ≠ n + 1 → w2.1 i = w.1 i) := by
  refine e_aload_n dd_OF_init_0 rfl ?_
  refine e_obj dd_OF_init_1 km_OF_3 ⟨by decide, Nat.le_of_ble_eq_true rfl⟩ ?_
  refine e_aload_n dd_OF_init_4 rfl ?_
  refine e_newx dd_OF_init_5 kn_OF_9 hn (fun w1 h2n h2v h2f => ?_)
  refine e_dup dd_OF_init_8 rfl ?_
  refine e_bipush_n 8 dd_OF_init_9 (by decide) ?_
  refine e_callIv (d1 := rr_Row_init) (As := [.int (nI 8)]) (st := [.ref n, .ref f]) dd_OF_init_11 km_OF_11 rfl (by decide) rfl (Nat.le_of_ble_eq_true rfl) (Nat.le_of_ble_eq_true rfl) rfl rfl (c_Row_init h2v h2n (by omega) (by decide)) (fun w5 k5 => ?_)
  have hf := (k5.2.2 f (by omega) (by omega)).trans ((h2f f (by omega)).trans hf)
  refine e_putFx (fs1 := [.ref n, .int 0, .int 0, .int 0, .int 0, .int 0]) dd_OF_init_14 kf_OF_14 rfl rfl hf (Nat.le_of_ble_eq_true rfl) rfl rfl rfl (fun w3 h4n h4v h4f => ?_)
  exact e_vret dd_OF_init_17 rfl (pV_of ⟨h4n.trans k5.1, h4v, k5.2.1.keep (h4f _ (by omega)) (h4f _ (by omega)), fun i h7 h8 h9 => (h4f i h7).trans ((k5.2.2 i h8 h9).trans (h2f i h8))⟩)
set_option maxRecDepth 100000 in
set_option maxHeartbeats 4000000 in
theorem c_WF_init {f n z : Nat} (hf : w.1 f = some (.inr (3, [.null, .null, .int 0, .int 0, .int 0, .int 0]))) (hn : w.2 = (n, z)) (hfn : f < n) : ab_E G mm_WF_init rr_WF_init 0 [(0, .ref f)] [] w (pV fun w2 => w2.2 = (n + 4, z + 132) ∧ w2.1 f = some (.inr (3, [.ref n, .ref (n + 2), .int 0, .int 0, .int 0, .int 0])) ∧ cR w2 n (n + 1) 8 [] ∧ cR w2 (n + 2) (n + 3) 120 [] ∧ ∀ i, i ≠ f → (i < n ∨ n + 4 ≤ i) → w2.1 i = w.1 i) := by
  refine e_aload_n dd_WF_init_0 rfl ?_
  refine e_obj dd_WF_init_1 km_WF_3 ⟨by decide, Nat.le_of_ble_eq_true rfl⟩ ?_
  refine e_aload_n dd_WF_init_4 rfl ?_
  refine e_newx dd_WF_init_5 kn_WF_9 hn (fun w31 h32n h32v h32f => ?_)
  refine e_dup dd_WF_init_8 rfl ?_
  refine e_bipush_n 8 dd_WF_init_9 (by decide) ?_
  refine e_callIv (d1 := rr_Row_init) (As := [.int (nI 8)]) (st := [.ref n, .ref f]) dd_WF_init_11 km_WF_11 rfl (by decide) rfl (Nat.le_of_ble_eq_true rfl) (Nat.le_of_ble_eq_true rfl) rfl rfl (c_Row_init h32v h32n (by omega) (by decide)) (fun w5 k5 => ?_)
  have hf := (k5.2.2 f (by omega) (by omega)).trans ((h32f f (by omega)).trans hf)
  refine e_putFx (fs1 := [.ref n, .null, .int 0, .int 0, .int 0, .int 0]) dd_WF_init_14 kf_WF_14 rfl rfl hf (Nat.le_of_ble_eq_true rfl) rfl rfl rfl (fun w33 h34n h34v h34f => ?_)
  refine e_aload_n dd_WF_init_17 rfl ?_
  have hn2 : w33.2 = (n + 2, z + 10) := h34n.trans k5.1
  refine e_newx dd_WF_init_18 kn_WF_9 hn2 (fun w35 h36n h36v h36f => ?_)
  refine e_dup dd_WF_init_21 rfl ?_
  refine e_bipush_n 120 dd_WF_init_22 (by decide) ?_
  refine e_callIv (d1 := rr_Row_init) (As := [.int (nI 120)]) (st := [.ref (n + 2), .ref f]) dd_WF_init_24 km_WF_11 rfl (by decide) rfl (Nat.le_of_ble_eq_true rfl) (Nat.le_of_ble_eq_true rfl) rfl rfl (c_Row_init h36v h36n (by omega) (by decide)) (fun w6 k6 => ?_)
  have hf := (k6.2.2 f (by omega) (by omega)).trans ((h36f f (by omega)).trans h34v)
  refine e_putFx (fs1 := [.ref n, .ref (n + 2), .int 0, .int 0, .int 0, .int 0]) dd_WF_init_27 kf_WF_20 rfl rfl hf (Nat.le_of_ble_eq_true rfl) rfl rfl rfl (fun w37 h38n h38v h38f => ?_)
  have hA : ∀ i, i ≠ f → i ≠ n + 2 → i ≠ n + 3 → w37.1 i = w5.1 i := fun i h7 h8 h9 => (h38f i h7).trans ((k6.2.2 i h8 h9).trans ((h36f i h8).trans (h34f i h7)))
  exact e_vret dd_WF_init_30 rfl (pV_of ⟨h38n.trans k6.1, h38v, k5.2.1.keep (hA _ (by omega) (by omega) (by omega)) (hA _ (by omega) (by omega) (by omega)), k6.2.1.keep (h38f _ (by omega)) (h38f _ (by omega)), fun i h8 h9 => (hA i h8 (by omega) (by omega)).trans ((k5.2.2 i (by omega) (by omega)).trans (h32f i (by omega)))⟩)
/-- the packer half made: its first i files stand -/
def pkI (w : ab_W) (i : Nat) : Prop := (∃ g, w.1 7 = some (.inl (1, 6, .inr (.inr (.inr (.inr g))))) ∧ ∀ j, j < i → g j = some (8 + 5 * j)) ∧ ∀ j, j < i → cWF w j [] [] 0 0 0 0
set_option maxRecDepth 100000 in
set_option maxHeartbeats 4000000 in
theorem l_Pk_init {z : Nat} : ∀ (k i : Nat) (w1 : ab_W), i + k = 6 → w1.2 = (8 + 5 * i, z + 138 * i) → w1.1 6 = some (.inr (2, [.ref 7, .int 0, .null])) → pkI w1 i → (∀ j, j < 6 → w1.1 j = w.1 j) → ab_E G mm_Pk_init rr_Pk_init 15 [(0, .ref 6), (1, .int (nI i))] [] w1 (pV fun w2 => w2.2 = (40, z + 138 * 6 + 825) ∧ cPk w2 [] ∧ cR w2 38 39 823 [] ∧ ∀ j, j < 6 → w2.1 j = w.1 j) := by
  intro k
  induction k with
  | zero =>
    intro i w1 hi hn h6 hI hF
    have e0 : i = 6 := by omega
    subst e0
    obtain ⟨⟨g, h7, hg⟩, hwf⟩ := hI
    refine e_iload_n dd_Pk_init_15 rfl ?_
    refine e_aload_n dd_Pk_init_16 rfl ?_
    refine e_get dd_Pk_init_17 kf_Pk_11 h6 rfl ?_
    refine e_alen dd_Pk_init_20 h7 rfl ?_
    refine e_icmp_ge_n (tgt := 43) dd_Pk_init_21 (by decide) (by omega) (by omega) (fun _ => ?_) (fun h9 => absurd h9 (by decide))
    refine e_aload_n dd_Pk_init_43 rfl ?_
    refine e_iconst_n 0 dd_Pk_init_44 (by decide) ?_
    refine e_putx (fs1 := [.ref 7, .int (nI 0), .null]) dd_Pk_init_45 kf_Pk_18 h6 (Nat.le_of_ble_eq_true rfl) rfl rfl rfl (fun w31 h32n h32v h32f => ?_)
    refine e_aload_n dd_Pk_init_48 rfl ?_
    have hn2 : w31.2 = (38, z + 138 * 6) := h32n.trans hn
    refine e_newx dd_Pk_init_49 kn_Pk_22 hn2 (fun w33 h34n h34v h34f => ?_)
    refine e_dup dd_Pk_init_52 rfl ?_
    refine e_sipush_n 823 dd_Pk_init_53 (by decide) ?_
    refine e_callIv (d1 := rr_Row_init) (As := [.int (nI 823)]) (st := [.ref 38, .ref 6]) dd_Pk_init_56 km_Pk_24 rfl (by decide) rfl (Nat.le_of_ble_eq_true rfl) (Nat.le_of_ble_eq_true rfl) rfl rfl (c_Row_init h34v h34n (by decide) (by decide)) (fun w6 k6 => ?_)
    have h6 := (k6.2.2 6 (by decide) (by decide)).trans ((h34f 6 (by decide)).trans h32v)
    refine e_putFx (fs1 := [.ref 7, .int (nI 0), .ref 38]) dd_Pk_init_59 kf_Pk_27 rfl rfl h6 (Nat.le_of_ble_eq_true rfl) rfl rfl rfl (fun w35 h36n h36v h36f => ?_)
    have hA : ∀ j, j ≠ 6 → j ≠ 38 → j ≠ 39 → w35.1 j = w1.1 j := fun j a1 a2 a3 => (h36f j a1).trans ((k6.2.2 j a2 a3).trans ((h34f j a2).trans (h32f j a1)))
    refine e_vret dd_Pk_init_62 rfl (pV_of ⟨h36n.trans k6.1, ⟨Nat.zero_le _, h36v, ⟨g, (hA 7 (by decide) (by decide) (by decide)).trans h7, fun i hi => hg i hi⟩, fun i hi => ?_, fun i f hf => by simp at hf⟩, k6.2.1.keep (h36f _ (by decide)) (h36f _ (by decide)), fun j hj => (hA j (by omega) (by omega) (by omega)).trans (hF j hj)⟩)
    obtain ⟨c1, c2, c3⟩ := hwf i hi
    exact ⟨[], [], 0, 0, 0, 0, (hA _ (by omega) (by omega) (by omega)).trans c1, c2.keep (hA _ (by omega) (by omega) (by omega)) (hA _ (by omega) (by omega) (by omega)), c3.keep (hA _ (by omega) (by omega) (by omega)) (hA _ (by omega) (by omega) (by omega))⟩
  | succ k ih =>
    intro i w1 hi hn h6 hI hF
    obtain ⟨⟨g, h7, hg⟩, hwf⟩ := hI
    refine e_iload_n dd_Pk_init_15 rfl ?_
    refine e_aload_n dd_Pk_init_16 rfl ?_
    refine e_get dd_Pk_init_17 kf_Pk_11 h6 rfl ?_
    refine e_alen dd_Pk_init_20 h7 rfl ?_
    refine e_icmp_ge_n (tgt := 43) dd_Pk_init_21 (by decide) (by omega) (by omega) (fun h9 => absurd h9 (by omega)) (fun _ => ?_)
    refine e_aload_n dd_Pk_init_24 rfl ?_
    refine e_get dd_Pk_init_25 kf_Pk_11 h6 rfl ?_
    refine e_iload_n dd_Pk_init_28 rfl ?_
    refine e_newx dd_Pk_init_29 kn_Pk_9 hn (fun w31 h32n h32v h32f => ?_)
    refine e_dup dd_Pk_init_32 rfl ?_
    refine e_callIv (d1 := rr_WF_init) (As := []) (st := [.ref (8 + 5 * i), .int (nI i), .ref 7]) dd_Pk_init_33 km_Pk_17 rfl (by decide) rfl (Nat.le_of_ble_eq_true rfl) (Nat.le_of_ble_eq_true rfl) rfl rfl (c_WF_init h32v h32n (by omega)) (fun w6 k6 => ?_)
    obtain ⟨q1, q2, q3, q4, q5⟩ := k6
    have h6 := (q5 6 (by omega) (by omega)).trans ((h32f 6 (by omega)).trans h6)
    have h7 := (q5 7 (by omega) (by omega)).trans ((h32f 7 (by omega)).trans h7)
    refine e_aastx dd_Pk_init_36 h7 rfl q2 rfl rfl (by omega) (by decide) (fun w33 h34n h34v h34f => ?_)
    refine e_iinc_n (a := i) (k := 1) (lv1 := [(0, .ref 6), (1, .int (nI (i + 1)))]) dd_Pk_init_37 rfl (by decide) (by decide) rfl ?_
    refine e_goto (tgt := 15) dd_Pk_init_40 (by decide) ?_
    have hA : ∀ j, j ≠ 7 → j ≠ 8 + 5 * i → (j < 9 + 5 * i ∨ 13 + 5 * i ≤ j) → w33.1 j = w1.1 j := fun j a1 a2 a3 => (h34f j a1).trans ((q5 j a2 (by omega)).trans (h32f j a2))
    refine ih (i + 1) w33 (by omega) ?_ ((h34f 6 (by omega)).trans h6) ⟨⟨_, h34v, fun j hj => ?_⟩, fun j hj => ?_⟩ (fun j hj => (hA j (by omega) (by omega) (by omega)).trans (hF j hj))
    · rw [h34n, q1]
      show (8 + 5 * i + 1 + 4, z + 138 * i + 6 + 132) = _
      rw [show 8 + 5 * i + 1 + 4 = 8 + 5 * (i + 1) by omega, show z + 138 * i + 6 + 132 = z + 138 * (i + 1) by omega]
    · by_cases e : j = i
      · subst e
        exact if_pos rfl
      · rw [show va_up g i (some (8 + 5 * i)) j = g j from if_neg e]
        exact hg j (by omega)
    · by_cases e : j = i
      · subst e
        refine ⟨?_, ?_, ?_⟩
        · rw [h34f _ (by omega), q2]
          rw [show 8 + 5 * j + 1 = 9 + 5 * j by omega, show 9 + 5 * j + 2 = 11 + 5 * j by omega]
          rfl
        · have q3 := q3.keep (h34f _ (by omega)) (h34f _ (by omega))
          rw [show 8 + 5 * j + 1 = 9 + 5 * j by omega, show 9 + 5 * j + 1 = 10 + 5 * j by omega] at q3
          exact q3
        · have q4 := q4.keep (h34f _ (by omega)) (h34f _ (by omega))
          rw [show 8 + 5 * j + 1 = 9 + 5 * j by omega, show 9 + 5 * j + 2 = 11 + 5 * j by omega, show 9 + 5 * j + 3 = 12 + 5 * j by omega] at q4
          exact q4
      · obtain ⟨c1, c2, c3⟩ := hwf j (by omega)
        exact ⟨(hA _ (by omega) (by omega) (by omega)).trans c1, c2.keep (hA _ (by omega) (by omega) (by omega)) (hA _ (by omega) (by omega) (by omega)), c3.keep (hA _ (by omega) (by omega) (by omega)) (hA _ (by omega) (by omega) (by omega))⟩
set_option maxRecDepth 100000 in
set_option maxHeartbeats 4000000 in
theorem c_Pk_init {z : Nat} (h6 : w.1 6 = some (.inr (2, [.null, .int 0, .null]))) (hn : w.2 = (7, z)) : ab_E G mm_Pk_init rr_Pk_init 0 [(0, .ref 6)] [] w (pV fun w2 => w2.2 = (40, z + 6 + 138 * 6 + 825) ∧ cPk w2 [] ∧ cR w2 38 39 823 [] ∧ ∀ j, j < 6 → w2.1 j = w.1 j) := by
  refine e_aload_n dd_Pk_init_0 rfl ?_
  refine e_obj dd_Pk_init_1 km_Pk_3 ⟨by decide, Nat.le_of_ble_eq_true rfl⟩ ?_
  refine e_aload_n dd_Pk_init_4 rfl ?_
  refine e_bipush_n 6 dd_Pk_init_5 (by decide) ?_
  refine e_newqx (t := 1) (Cn := "ArchiveBench$WaitingFile") dd_Pk_init_7 rfl ww_47 (by decide) rfl (by decide) hn (fun w1 h2n h2v h2f => ?_)
  refine e_putFx (fs1 := [.ref 7, .int 0, .null]) dd_Pk_init_10 kf_Pk_11 rfl rfl ((h2f _ (by decide)).trans h6) (Nat.le_of_ble_eq_true rfl) rfl rfl rfl (fun w3 h4n h4v h4f => ?_)
  refine e_iconst_n 0 dd_Pk_init_13 (by decide) ?_
  refine e_istore_n (lv1 := [(0, .ref 6), (1, .int (nI 0))]) dd_Pk_init_14 (by decide) rfl ?_
  exact l_Pk_init 6 0 w3 (by decide) (h4n.trans h2n) h4v ⟨⟨_, (h4f 7 (by decide)).trans h2v, fun j hj => absurd hj (Nat.not_lt_zero j)⟩, fun j hj => absurd hj (Nat.not_lt_zero j)⟩ (fun j hj => (h4f j (by omega)).trans (h2f j (by omega)))
def arI (w : ab_W) (i : Nat) : Prop := (∃ g, w.1 43 = some (.inl (2, 7, .inr (.inr (.inr (.inr g))))) ∧ ∀ j, j < i → g j = some (44 + 3 * j)) ∧ (∀ j, j < i → fE w j) ∧ cR w 41 42 600 []
set_option maxRecDepth 100000 in
set_option maxHeartbeats 4000000 in
theorem l_Ar_init {z : Nat} : ∀ (k i : Nat) (w1 : ab_W), i + k = 7 → w1.2 = (44 + 3 * i, z + 16 * i) → w1.1 40 = some (.inr (4, [.ref 41, .ref 43, .int 0, .int 0, .int 0, .int 0])) → arI w1 i → (∀ j, j < 40 → w1.1 j = w.1 j) → ab_E G mm_Ar_init rr_Ar_init 29 [(0, .ref 40), (1, .int (nI i))] [] w1 (pV fun w2 => w2.2 = (65, z + 16 * 7) ∧ aO w2 0 (-1) 0 0 ∧ aW w2 [] ∧ ∀ j, j < 40 → w2.1 j = w.1 j) := by
  intro k
  induction k with
  | zero =>
    intro i w1 hi hn h40 hI hF
    have e0 : i = 7 := by omega
    subst e0
    obtain ⟨⟨g, h43, hg⟩, hE, him⟩ := hI
    refine e_iload_n dd_Ar_init_29 rfl ?_
    refine e_aload_n dd_Ar_init_30 rfl ?_
    refine e_get dd_Ar_init_31 kf_Ar_22 h40 rfl ?_
    refine e_alen dd_Ar_init_34 h43 rfl ?_
    refine e_icmp_ge_n (tgt := 57) dd_Ar_init_35 (by decide) (by omega) (by omega) (fun _ => ?_) (fun h9 => absurd h9 (by decide))
    refine e_aload_n dd_Ar_init_57 rfl ?_
    refine e_iconst_n 0 dd_Ar_init_58 (by decide) ?_
    refine e_putx (fs1 := [.ref 41, .ref 43, .int (nI 0), .int 0, .int 0, .int 0]) dd_Ar_init_59 kf_Ar_27 h40 (Nat.le_of_ble_eq_true rfl) rfl rfl rfl (fun w31 h32n h32v h32f => ?_)
    refine e_aload_n dd_Ar_init_62 rfl ?_
    refine e_iconst (v := -1) dd_Ar_init_63 (by decide) ?_
    refine e_putx (fs1 := [.ref 41, .ref 43, .int (nI 0), .int (-1), .int 0, .int 0]) dd_Ar_init_64 kf_Ar_31 h32v (Nat.le_of_ble_eq_true rfl) rfl rfl rfl (fun w33 h34n h34v h34f => ?_)
    have hA : ∀ j, j ≠ 40 → w33.1 j = w1.1 j := fun j a1 => (h34f j a1).trans (h32f j a1)
    have hW : aW w1 [] := ⟨⟨g, h43, hg⟩, hE, him⟩
    exact e_vret dd_Ar_init_67 rfl (pV_of ⟨h34n.trans (h32n.trans hn), h34v, hW.f (h34n.trans h32n) hA, fun j hj => (hA j (by omega)).trans (hF j hj)⟩)
  | succ k ih =>
    intro i w1 hi hn h40 hI hF
    obtain ⟨⟨g, h43, hg⟩, hE, him⟩ := hI
    refine e_iload_n dd_Ar_init_29 rfl ?_
    refine e_aload_n dd_Ar_init_30 rfl ?_
    refine e_get dd_Ar_init_31 kf_Ar_22 h40 rfl ?_
    refine e_alen dd_Ar_init_34 h43 rfl ?_
    refine e_icmp_ge_n (tgt := 57) dd_Ar_init_35 (by decide) (by omega) (by omega) (fun h9 => absurd h9 (by omega)) (fun _ => ?_)
    refine e_aload_n dd_Ar_init_38 rfl ?_
    refine e_get dd_Ar_init_39 kf_Ar_22 h40 rfl ?_
    refine e_iload_n dd_Ar_init_42 rfl ?_
    refine e_newx dd_Ar_init_43 kn_Ar_20 hn (fun w31 h32n h32v h32f => ?_)
    refine e_dup dd_Ar_init_46 rfl ?_
    refine e_callIv (d1 := rr_OF_init) (As := []) (st := [.ref (44 + 3 * i), .int (nI i), .ref 43]) dd_Ar_init_47 km_Ar_26 rfl (by decide) rfl (Nat.le_of_ble_eq_true rfl) (Nat.le_of_ble_eq_true rfl) rfl rfl (c_OF_init h32v h32n (by omega)) (fun w6 k6 => ?_)
    obtain ⟨q1, q2, q3, q4⟩ := k6
    have h40 := (q4 40 (by omega) (by omega) (by omega)).trans ((h32f 40 (by omega)).trans h40)
    have h43 := (q4 43 (by omega) (by omega) (by omega)).trans ((h32f 43 (by omega)).trans h43)
    refine e_aastx dd_Ar_init_50 h43 rfl q2 rfl rfl (by omega) (by decide) (fun w33 h34n h34v h34f => ?_)
    refine e_iinc_n (a := i) (k := 1) (lv1 := [(0, .ref 40), (1, .int (nI (i + 1)))]) dd_Ar_init_51 rfl (by decide) (by decide) rfl ?_
    refine e_goto (tgt := 29) dd_Ar_init_54 (by decide) ?_
    have hA : ∀ j, j ≠ 43 → (j < 44 + 3 * i ∨ 47 + 3 * i ≤ j) → w33.1 j = w1.1 j := fun j a1 a2 => (h34f j a1).trans ((q4 j (by omega) (by omega) (by omega)).trans (h32f j (by omega)))
    refine ih (i + 1) w33 (by omega) ?_ ((h34f 40 (by omega)).trans h40) ⟨⟨_, h34v, fun j hj => ?_⟩, fun j hj => ?_, him.keep (hA _ (by omega) (by omega)) (hA _ (by omega) (by omega))⟩ (fun j hj => (hA j (by omega) (by omega)).trans (hF j hj))
    · rw [h34n, q1]
      show (44 + 3 * i + 1 + 2, z + 16 * i + 6 + 10) = _
      rw [show 44 + 3 * i + 1 + 2 = 44 + 3 * (i + 1) by omega, show z + 16 * i + 6 + 10 = z + 16 * (i + 1) by omega]
    · by_cases e : j = i
      · subst e
        exact if_pos rfl
      · rw [show va_up g i (some (44 + 3 * i)) j = g j from if_neg e]
        exact hg j (by omega)
    · by_cases e : j = i
      · subst e
        refine ⟨⟨0, 0, 0, 0, 0, ?_⟩, [], ?_⟩
        · show w33.1 (44 + 3 * j) = _
          rw [h34f _ (by omega), q2]
          rw [show 44 + 3 * j + 1 = 45 + 3 * j by omega]
        · have q3 := q3.keep (h34f _ (by omega)) (h34f _ (by omega))
          rw [show 44 + 3 * j + 1 = 45 + 3 * j by omega, show 45 + 3 * j + 1 = 46 + 3 * j by omega] at q3
          exact q3
      · obtain ⟨⟨m, a, s, n, k, c1⟩, nm, c2⟩ := hE j (by omega)
        exact ⟨⟨m, a, s, n, k, (hA _ (by omega) (by omega)).trans c1⟩, nm, c2.keep (hA _ (by omega) (by omega)) (hA _ (by omega) (by omega))⟩
set_option maxRecDepth 100000 in
set_option maxHeartbeats 4000000 in
theorem c_Ar_init {z : Nat} (h40 : w.1 40 = some (.inr (4, [.null, .null, .int 0, .int 0, .int 0, .int 0]))) (hn : w.2 = (41, z)) : ab_E G mm_Ar_init rr_Ar_init 0 [(0, .ref 40)] [] w (pV fun w2 => w2.2 = (65, z + 609 + 16 * 7) ∧ aO w2 0 (-1) 0 0 ∧ aW w2 [] ∧ ∀ j, j < 40 → w2.1 j = w.1 j) := by
  refine e_aload_n dd_Ar_init_0 rfl ?_
  refine e_obj dd_Ar_init_1 km_Ar_3 ⟨by decide, Nat.le_of_ble_eq_true rfl⟩ ?_
  refine e_aload_n dd_Ar_init_4 rfl ?_
  refine e_newx dd_Ar_init_5 kn_Ar_9 hn (fun w1 h2n h2v h2f => ?_)
  refine e_dup dd_Ar_init_8 rfl ?_
  refine e_sipush_n 600 dd_Ar_init_9 (by decide) ?_
  refine e_callIv (d1 := rr_Row_init) (As := [.int (nI 600)]) (st := [.ref 41, .ref 40]) dd_Ar_init_12 km_Ar_11 rfl (by decide) rfl (Nat.le_of_ble_eq_true rfl) (Nat.le_of_ble_eq_true rfl) rfl rfl (c_Row_init h2v h2n (by decide) (by decide)) (fun w6 k6 => ?_)
  have h40 := (k6.2.2 40 (by decide) (by decide)).trans ((h2f 40 (by decide)).trans h40)
  refine e_putFx (fs1 := [.ref 41, .null, .int 0, .int 0, .int 0, .int 0]) dd_Ar_init_15 kf_Ar_14 rfl rfl h40 (Nat.le_of_ble_eq_true rfl) rfl rfl rfl (fun w3 h4n h4v h4f => ?_)
  refine e_aload_n dd_Ar_init_18 rfl ?_
  refine e_bipush_n 7 dd_Ar_init_19 (by decide) ?_
  have hn2 : w3.2 = (43, z + 602) := h4n.trans k6.1
  refine e_newqx (t := 2) (Cn := "ArchiveBench$OpenFile") dd_Ar_init_21 rfl ww_99 (by decide) rfl (by decide) hn2 (fun w5 h6n h6v h6f => ?_)
  refine e_putFx (fs1 := [.ref 41, .ref 43, .int 0, .int 0, .int 0, .int 0]) dd_Ar_init_24 kf_Ar_22 rfl rfl ((h6f _ (by decide)).trans h4v) (Nat.le_of_ble_eq_true rfl) rfl rfl rfl (fun w7 h8n h8v h8f => ?_)
  refine e_iconst_n 0 dd_Ar_init_27 (by decide) ?_
  refine e_istore_n (lv1 := [(0, .ref 40), (1, .int (nI 0))]) dd_Ar_init_28 (by decide) rfl ?_
  exact l_Ar_init 7 0 w7 (by decide) (h8n.trans h6n) h8v ⟨⟨_, (h8f 43 (by decide)).trans h6v, fun j hj => absurd hj (Nat.not_lt_zero j)⟩, fun j hj => absurd hj (Nat.not_lt_zero j), k6.2.1.keep ((h8f 41 (by decide)).trans ((h6f 41 (by decide)).trans (h4f 41 (by decide)))) ((h8f 42 (by decide)).trans ((h6f 42 (by decide)).trans (h4f 42 (by decide))))⟩ (fun j hj => (h8f j (by omega)).trans ((h6f j (by omega)).trans ((h4f j (by omega)).trans ((k6.2.2 j (by omega) (by omega)).trans (h2f j (by omega))))))
def S0 : CS := ([], [], [], [], [], -1, [])
set_option maxRecDepth 100000 in
set_option maxHeartbeats 4000000 in
theorem c_AB_init {z : Nat} (h1 : w.1 1 = some (.inr (0, [.null, .null, .null, .null, .null, .null]))) (hn : w.2 = (2, z)) : ab_E G mm_AB_init rr_AB_init 0 [(0, .ref 1)] [] w (pV fun w2 => w2.2 = (69, z + 2585) ∧ cRep w2 S0) := by
  refine e_aload_n dd_AB_init_0 rfl ?_
  refine e_obj dd_AB_init_1 km_AB_3 ⟨by decide, Nat.le_of_ble_eq_true rfl⟩ ?_
  refine e_aload_n dd_AB_init_4 rfl ?_
  refine e_newx dd_AB_init_5 kn_AB_9 hn (fun w1 h2n h2v h2f => ?_)
  refine e_dup dd_AB_init_8 rfl ?_
  refine e_bipush_n 8 dd_AB_init_9 (by decide) ?_
  refine e_callIv (d1 := rr_Row_init) (As := [.int (nI 8)]) (st := [.ref 2, .ref 1]) dd_AB_init_11 km_AB_11 rfl (by decide) rfl (Nat.le_of_ble_eq_true rfl) (Nat.le_of_ble_eq_true rfl) rfl rfl (c_Row_init h2v h2n (by decide) (by decide)) (fun v2 k2 => ?_)
  have h1 := (k2.2.2 1 (by decide) (by decide)).trans ((h2f 1 (by decide)).trans h1)
  refine e_putFx (fs1 := [.ref 2, .null, .null, .null, .null, .null]) dd_AB_init_14 kf_AB_14 rfl rfl h1 (Nat.le_of_ble_eq_true rfl) rfl rfl rfl (fun w3 h4n h4v h4f => ?_)
  have h1 := h4v
  have hn := h4n.trans k2.1
  refine e_aload_n dd_AB_init_17 rfl ?_
  have F2 : ∀ j, j ≠ 1 → w3.1 j = v2.1 j := h4f
  refine e_newx dd_AB_init_18 kn_AB_9 hn (fun w5 h6n h6v h6f => ?_)
  refine e_dup dd_AB_init_21 rfl ?_
  refine e_bipush_n 60 dd_AB_init_22 (by decide) ?_
  refine e_callIv (d1 := rr_Row_init) (As := [.int (nI 60)]) (st := [.ref 4, .ref 1]) dd_AB_init_24 km_AB_11 rfl (by decide) rfl (Nat.le_of_ble_eq_true rfl) (Nat.le_of_ble_eq_true rfl) rfl rfl (c_Row_init h6v h6n (by decide) (by decide)) (fun v4 k4 => ?_)
  have h1 := (k4.2.2 1 (by decide) (by decide)).trans ((h6f 1 (by decide)).trans h1)
  refine e_putFx (fs1 := [.ref 2, .ref 4, .null, .null, .null, .null]) dd_AB_init_27 kf_AB_18 rfl rfl h1 (Nat.le_of_ble_eq_true rfl) rfl rfl rfl (fun w7 h8n h8v h8f => ?_)
  have h1 := h8v
  have hn := h8n.trans k4.1
  refine e_aload_n dd_AB_init_30 rfl ?_
  have F4 : ∀ j, j ≠ 1 → j ≠ 4 → j ≠ 5 → w7.1 j = v2.1 j := fun j a1 a2 a3 => (h8f j a1).trans ((k4.2.2 j a2 a3).trans ((h6f j a2).trans (F2 j a1)))
  refine e_newx dd_AB_init_31 kn_AB_21 hn (fun w9 h10n h10v h10f => ?_)
  refine e_dup dd_AB_init_34 rfl ?_
  refine e_callIv (d1 := rr_Pk_init) (As := []) (st := [.ref 6, .ref 1]) dd_AB_init_35 km_AB_23 rfl (by decide) rfl (Nat.le_of_ble_eq_true rfl) (Nat.le_of_ble_eq_true rfl) rfl rfl (c_Pk_init h10v h10n) (fun v6 k6 => ?_)
  obtain ⟨p1, p2, p3, p4⟩ := k6
  have h1 := (p4 1 (by decide)).trans ((h10f 1 (by decide)).trans h1)
  refine e_putFx (fs1 := [.ref 2, .ref 4, .ref 6, .null, .null, .null]) dd_AB_init_38 kf_AB_24 rfl rfl h1 (Nat.le_of_ble_eq_true rfl) rfl rfl rfl (fun w11 h12n h12v h12f => ?_)
  have h1 := h12v
  have hn := h12n.trans p1
  refine e_aload_n dd_AB_init_41 rfl ?_
  have F6 : ∀ j, j ≠ 1 → j < 6 → w11.1 j = w7.1 j := fun j a1 a2 => (h12f j a1).trans ((p4 j a2).trans (h10f j (by omega)))
  refine e_newx dd_AB_init_42 kn_AB_28 hn (fun w13 h14n h14v h14f => ?_)
  refine e_dup dd_AB_init_45 rfl ?_
  refine e_callIv (d1 := rr_Ar_init) (As := []) (st := [.ref 40, .ref 1]) dd_AB_init_46 km_AB_30 rfl (by decide) rfl (Nat.le_of_ble_eq_true rfl) (Nat.le_of_ble_eq_true rfl) rfl rfl (c_Ar_init h14v h14n) (fun v40 k40 => ?_)
  obtain ⟨q1, q2, q3, q4⟩ := k40
  have h1 := (q4 1 (by decide)).trans ((h14f 1 (by decide)).trans h1)
  refine e_putFx (fs1 := [.ref 2, .ref 4, .ref 6, .ref 40, .null, .null]) dd_AB_init_49 kf_AB_31 rfl rfl h1 (Nat.le_of_ble_eq_true rfl) rfl rfl rfl (fun w15 h16n h16v h16f => ?_)
  have h1 := h16v
  have hn := h16n.trans q1
  refine e_aload_n dd_AB_init_52 rfl ?_
  have F40 : ∀ j, j ≠ 1 → j < 40 → w15.1 j = w11.1 j := fun j a1 a2 => (h16f j a1).trans ((q4 j a2).trans (h14f j (by omega)))
  refine e_newx dd_AB_init_53 kn_AB_9 hn (fun w17 h18n h18v h18f => ?_)
  refine e_dup dd_AB_init_56 rfl ?_
  refine e_bipush_n 60 dd_AB_init_57 (by decide) ?_
  refine e_callIv (d1 := rr_Row_init) (As := [.int (nI 60)]) (st := [.ref 65, .ref 1]) dd_AB_init_59 km_AB_11 rfl (by decide) rfl (Nat.le_of_ble_eq_true rfl) (Nat.le_of_ble_eq_true rfl) rfl rfl (c_Row_init h18v h18n (by decide) (by decide)) (fun v65 k65 => ?_)
  have h1 := (k65.2.2 1 (by decide) (by decide)).trans ((h18f 1 (by decide)).trans h1)
  refine e_putFx (fs1 := [.ref 2, .ref 4, .ref 6, .ref 40, .ref 65, .null]) dd_AB_init_62 kf_AB_35 rfl rfl h1 (Nat.le_of_ble_eq_true rfl) rfl rfl rfl (fun w19 h20n h20v h20f => ?_)
  have h1 := h20v
  have hn := h20n.trans k65.1
  refine e_aload_n dd_AB_init_65 rfl ?_
  have F65 : ∀ j, j ≠ 1 → j < 65 → w19.1 j = w15.1 j := fun j a1 a2 => (h20f j a1).trans ((k65.2.2 j (by omega) (by omega)).trans (h18f j (by omega)))
  refine e_newx dd_AB_init_66 kn_AB_9 hn (fun w21 h22n h22v h22f => ?_)
  refine e_dup dd_AB_init_69 rfl ?_
  refine e_bipush_n 60 dd_AB_init_70 (by decide) ?_
  refine e_callIv (d1 := rr_Row_init) (As := [.int (nI 60)]) (st := [.ref 67, .ref 1]) dd_AB_init_72 km_AB_11 rfl (by decide) rfl (Nat.le_of_ble_eq_true rfl) (Nat.le_of_ble_eq_true rfl) rfl rfl (c_Row_init h22v h22n (by decide) (by decide)) (fun v67 k67 => ?_)
  have h1 := (k67.2.2 1 (by decide) (by decide)).trans ((h22f 1 (by decide)).trans h1)
  refine e_putFx (fs1 := [.ref 2, .ref 4, .ref 6, .ref 40, .ref 65, .ref 67]) dd_AB_init_75 kf_AB_38 rfl rfl h1 (Nat.le_of_ble_eq_true rfl) rfl rfl rfl (fun w23 h24n h24v h24f => ?_)
  have F67 : ∀ j, j ≠ 1 → j < 67 → w23.1 j = w19.1 j := fun j a1 a2 => (h24f j a1).trans ((k67.2.2 j (by omega) (by omega)).trans (h22f j (by omega)))
  have E40 : ∀ j, j ≠ 1 → j < 65 → w23.1 j = w15.1 j := fun j a1 a2 => (F67 j a1 (by omega)).trans (F65 j a1 a2)
  have E6 : ∀ j, j ≠ 1 → j < 40 → w23.1 j = w11.1 j := fun j a1 a2 => (E40 j a1 (by omega)).trans (F40 j a1 a2)
  have E4 : ∀ j, j ≠ 1 → j < 6 → w23.1 j = w7.1 j := fun j a1 a2 => (E6 j a1 (by omega)).trans (F6 j a1 a2)
  refine e_vret dd_AB_init_78 rfl (pV_of ⟨?_, h24v, k2.2.1.keep ((E4 2 (by decide) (by decide)).trans (F4 2 (by decide) (by decide) (by decide))) ((E4 3 (by decide) (by decide)).trans (F4 3 (by decide) (by decide) (by decide))), k4.2.1.keep ((E4 4 (by decide) (by decide)).trans (h8f 4 (by decide))) ((E4 5 (by decide) (by decide)).trans (h8f 5 (by decide))), p2.keep (fun j a1 a2 => (E6 j (by omega) (by omega)).trans (h12f j (by omega))), ⟨[], p3.keep ((E6 38 (by decide) (by decide)).trans (h12f 38 (by decide))) ((E6 39 (by decide) (by decide)).trans (h12f 39 (by decide)))⟩, ⟨0, 0, ((E40 40 (by decide) (by decide)).trans (h16f 40 (by decide))).trans q2⟩, q3.G (fun j a1 a2 => (E40 j (by omega) a2).trans (h16f j (by omega))), hopN, ⟨[], k65.2.1.keep ((F67 65 (by decide) (by decide)).trans (h20f 65 (by decide))) ((F67 66 (by decide) (by decide)).trans (h20f 66 (by decide)))⟩, k67.2.1.keep (h24f 67 (by decide)) (h24f 68 (by decide))⟩)
  rw [h24n, k67.1]
  simp only [Prod.mk.injEq, List.length_cons, List.length_nil]
end CT
