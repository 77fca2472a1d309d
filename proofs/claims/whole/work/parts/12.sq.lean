/-! Squeezing by runs. -/
theorem cR.fr {w w1 : ab_W} {r a cap r2 a2 : Nat} {xs : List Nat} (h : cR w r a cap xs) (hS : rS w w1 r2 a2) (n1 : r ≠ r2) (n2 : r ≠ a2) (n3 : a ≠ r2) (n4 : a ≠ a2) : cR w1 r a cap xs := h.keep (hS.2 r n1 n2) (hS.2 a n3 n4)
/-- how long a run is -/
def rl (xs : List Nat) (p v : Nat) : Nat → Nat → Nat
  | 0, n => n
  | k + 1, n => if p + n < xs.length ∧ xs.getD (p + n) 0 = v then rl xs p v k (n + 1) else n
theorem rl_le (xs : List Nat) (p v : Nat) : ∀ k n, n ≤ rl xs p v k n ∧ rl xs p v k n ≤ n + k ∧ (p + n ≤ xs.length → p + rl xs p v k n ≤ xs.length)
  | 0, n => ⟨Nat.le_refl _, Nat.le_refl _, id⟩
  | k + 1, n => by
    unfold rl
    split
    · rename_i h
      obtain ⟨h1, h2, h3⟩ := rl_le xs p v k (n + 1)
      exact ⟨by omega, by omega, fun _ => h3 (by omega)⟩
    · exact ⟨by omega, by omega, id⟩
def rn1 (n v : Nat) : List Nat := if n ≤ 2 ∧ v < 246 then List.replicate n v else [246 + n, v]
def rnF (xs : List Nat) : Nat → Nat → List Nat
  | 0, _ => []
  | k + 1, p => if p < xs.length then rn1 (rl xs p (xs.getD p 0) 8 1) (xs.getD p 0) ++ rnF xs k (p + rl xs p (xs.getD p 0) 8 1) else []
def runs (xs : List Nat) : List Nat := rnF xs xs.length 0
theorem rn1_len {n : Nat} (v : Nat) (h : 1 ≤ n) : (rn1 n v).length ≤ 2 * n := by
  unfold rn1
  split
  · rw [List.length_replicate]; omega
  · show 2 ≤ 2 * n; omega
theorem rnF_len (xs : List Nat) : ∀ k p, p ≤ xs.length → (rnF xs k p).length ≤ 2 * (xs.length - p)
  | 0, p, _ => by simp [rnF]
  | k + 1, p, hp => by
    unfold rnF
    split
    · rename_i h
      obtain ⟨h1, h2, h3⟩ := rl_le xs p (xs.getD p 0) 8 1
      have h4 := h3 (by omega)
      have h5 := rnF_len xs k _ h4
      have h6 := rn1_len (xs.getD p 0) h1
      rw [List.length_append]
      omega
    · simp
theorem runs_len (xs : List Nat) : (runs xs).length ≤ 2 * xs.length := rnF_len xs xs.length 0 (Nat.zero_le _)
theorem rn1_byte {n v : Nat} (hn : n ≤ 9) (hv : v < 256) : ∀ x ∈ rn1 n v, x < 256 := by
  intro x hx
  unfold rn1 at hx
  split at hx
  · rw [(List.mem_replicate.mp hx).2]; exact hv
  · rcases List.mem_cons.mp hx with h | h
    · omega
    · rw [List.mem_singleton.mp h]; exact hv
theorem rnF_byte {xs : List Nat} (hb : ∀ x ∈ xs, x < 256) : ∀ k p, ∀ x ∈ rnF xs k p, x < 256
  | 0, p, x, hx => by simp [rnF] at hx
  | k + 1, p, x, hx => by
    unfold rnF at hx
    split at hx
    · rename_i h
      obtain ⟨h1, h2, h3⟩ := rl_le xs p (xs.getD p 0) 8 1
      rcases List.mem_append.mp hx with h4 | h4
      · exact rn1_byte (by omega) (getD_lt hb h) x h4
      · exact rnF_byte hb k _ x h4
    · simp at hx
theorem neg1_ne {v : Nat} (h : v < 2 ^ 31) : ¬ (-1 : Int32) = nI v := by
  intro e
  have h2 := nI_pos h
  rw [← e] at h2
  exact h2 (by decide)
section SQ
variable {G : ab_G} {w : ab_W} {r a cap r2 a2 cap2 : Nat} {xs : List Nat}
/-- the inner loop: n grows to the run's length -/
theorem l_Sq_run {p v : Nat} {P : Option Value → ab_W → Prop} (h : cR w r a cap xs) (hv : v < 256) (hp : p < 100000) (R : Nat) (K : ab_E G mm_Sq_squeezeRuns rr_Sq_squeezeRuns 44 [(0, .ref r), (1, .ref r2), (2, .int (nI p)), (3, .int (nI v)), (4, .int (nI R))] [] w P) : ∀ k n, n + k = 9 → rl xs p v k n = R → ab_E G mm_Sq_squeezeRuns rr_Sq_squeezeRuns 19 [(0, .ref r), (1, .ref r2), (2, .int (nI p)), (3, .int (nI v)), (4, .int (nI n))] [] w P := by
  have hr := h.obj
  have hby := h.2.2.2.2.1
  have hlt := h.lt
  intro k
  induction k with
  | zero =>
    intro n hn hR
    have e0 : n = R := hR
    subst e0
    refine e_iload dd_Sq_squeezeRuns_19 rfl ?_
    refine e_bipush_n 9 dd_Sq_squeezeRuns_21 (by decide) ?_
    refine e_icmp_ge_n (tgt := 44) dd_Sq_squeezeRuns_23 (by decide) (by omega) (by omega) (fun _ => ?_) (fun h9 => absurd h9 (by omega))
    exact K
  | succ k ih =>
    intro n hn hR
    refine e_iload dd_Sq_squeezeRuns_19 rfl ?_
    refine e_bipush_n 9 dd_Sq_squeezeRuns_21 (by decide) ?_
    refine e_icmp_ge_n (tgt := 44) dd_Sq_squeezeRuns_23 (by decide) (by omega) (by omega) (fun h9 => absurd h9 (by omega)) (fun _ => ?_)
    refine e_aload_n dd_Sq_squeezeRuns_26 rfl ?_
    refine e_iload_n dd_Sq_squeezeRuns_27 rfl ?_
    refine e_iload dd_Sq_squeezeRuns_28 rfl ?_
    refine e_iadd_n dd_Sq_squeezeRuns_30 ?_
    refine e_callVp (d1 := rr_Row_at) (As := [.int (nI (p + n))]) (st := []) dd_Sq_squeezeRuns_31 km_Sq_32 hr rfl (by decide) rfl (Nat.le_of_ble_eq_true rfl) (Nat.le_of_ble_eq_true rfl) rfl rfl (c_Row_atn h (by omega)) ?_
    refine e_iload_n dd_Sq_squeezeRuns_34 rfl ?_
    unfold rl at hR
    by_cases e1 : p + n < xs.length
    · rw [rb_in e1]
      have g1 := getD_lt hby e1
      refine e_icmp_ne_n (tgt := 44) dd_Sq_squeezeRuns_35 (by decide) (by omega) (by omega) (fun c35 => ?_) (fun c35 => ?_)
      · rw [if_neg (fun e => c35 e.2)] at hR
        rw [hR]
        exact K
      · refine e_iinc_n (a := n) (k := 1) (lv1 := [(0, .ref r), (1, .ref r2), (2, .int (nI p)), (3, .int (nI v)), (4, .int (nI (n + 1)))]) dd_Sq_squeezeRuns_38 rfl (by decide) (by decide) rfl ?_
        refine e_goto (tgt := 19) dd_Sq_squeezeRuns_41 (by decide) ?_
        rw [if_pos ⟨e1, c35⟩] at hR
        exact ih (n + 1) (by omega) hR
    · rw [rb_out (by omega)]
      refine e_icmp_ne (tgt := 44) dd_Sq_squeezeRuns_35 (by decide) (fun _ => ?_) (fun h9 => absurd h9 (fun h8 => absurd h8 (neg1_ne (by omega))))
      rw [if_neg (fun e => e1 e.1)] at hR
      rw [hR]
      exact K
theorem l_Sq_runs (h : cR w r a cap xs) (n1 : r ≠ r2) (n2 : r ≠ a2) (n3 : a ≠ r2) (n4 : a ≠ a2) (tot : List Nat) (htot : tot.length ≤ cap2) : ∀ (k p : Nat) (w1 : ab_W) (acc : List Nat) (lv : List (Nat × Value)), xs.length ≤ p + k → acc ++ rnF xs k p = tot → p ≤ xs.length → rS w w1 r2 a2 → cR w1 r2 a2 cap2 acc → ab_E G mm_Sq_squeezeRuns rr_Sq_squeezeRuns 2 [(0, .ref r), (1, .ref r2), (2, .int (nI p))] [] w1 (pV fun w2 => rS w w2 r2 a2 ∧ cR w2 r2 a2 cap2 tot) := by
  have hby := h.2.2.2.2.1
  have hlt := h.lt
  intro k
  induction k with
  | zero =>
    intro p w1 acc lv hk ht hp hS h2
    have hr := (h.fr hS n1 n2 n3 n4).obj
    refine e_iload_n dd_Sq_squeezeRuns_2 rfl ?_
    refine e_aload_n dd_Sq_squeezeRuns_3 rfl ?_
    refine e_get dd_Sq_squeezeRuns_4 kf_Sq_28 hr rfl ?_
    refine e_icmp_ge_n (tgt := 93) dd_Sq_squeezeRuns_7 (by decide) (by omega) (by omega) (fun _ => ?_) (fun h9 => absurd h9 (by omega))
    exact e_vret dd_Sq_squeezeRuns_93 rfl (pV_of ⟨hS, by rw [← ht, rnF, List.append_nil]; exact h2⟩)
  | succ k ih =>
    intro p w1 acc lv hk ht hp hS h2
    have h1 := h.fr hS n1 n2 n3 n4
    have hr := h1.obj
    have hr2 := h2.obj
    unfold rnF at ht
    refine e_iload_n dd_Sq_squeezeRuns_2 rfl ?_
    refine e_aload_n dd_Sq_squeezeRuns_3 rfl ?_
    refine e_get dd_Sq_squeezeRuns_4 kf_Sq_28 hr rfl ?_
    refine e_icmp_ge_n (tgt := 93) dd_Sq_squeezeRuns_7 (by decide) (by omega) (by omega) (fun c7 => ?_) (fun c7 => ?_)
    · exact e_vret dd_Sq_squeezeRuns_93 rfl (pV_of ⟨hS, by rw [← ht, if_neg (by omega), List.append_nil]; exact h2⟩)
    · rw [if_pos c7] at ht
      have hv := getD_lt hby c7
      refine e_aload_n dd_Sq_squeezeRuns_10 rfl ?_
      refine e_iload_n dd_Sq_squeezeRuns_11 rfl ?_
      refine e_callVp (d1 := rr_Row_at) (As := [.int (nI p)]) (st := []) dd_Sq_squeezeRuns_12 km_Sq_32 hr rfl (by decide) rfl (Nat.le_of_ble_eq_true rfl) (Nat.le_of_ble_eq_true rfl) rfl rfl (c_Row_ati h1 c7) ?_
      generalize hve : xs.getD p 0 = v at ht hv ⊢
      obtain ⟨g1, g2, g3⟩ := rl_le xs p v 8 1
      refine e_istore_n (lv1 := [(0, .ref r), (1, .ref r2), (2, .int (nI p)), (3, .int (nI v))]) dd_Sq_squeezeRuns_15 (by decide) rfl ?_
      refine e_iconst_n 1 dd_Sq_squeezeRuns_16 (by decide) ?_
      refine e_istore (lv1 := [(0, .ref r), (1, .ref r2), (2, .int (nI p)), (3, .int (nI v)), (4, .int (nI 1))]) dd_Sq_squeezeRuns_17 (by decide) rfl ?_
      generalize hne : rl xs p v 8 1 = n at ht g1 g2 g3
      refine l_Sq_run h1 hv (by omega) n ?_ 8 1 (by decide) hne
      have hpn := g3 (by omega)
      refine e_iload dd_Sq_squeezeRuns_44 rfl ?_
      refine e_iconst_n 2 dd_Sq_squeezeRuns_46 (by decide) ?_
      refine e_icmp_gt_n (tgt := 68) dd_Sq_squeezeRuns_47 (by decide) (by omega) (by omega) (fun c47 => ?_) (fun c47 => ?_)
      · have e8 : rn1 n v = [246 + n, v] := if_neg (by omega)
        rw [e8] at ht
        have e7 := congrArg List.length ht
        rw [List.length_append, List.length_append] at e7
        have e6 : ([246 + n, v] : List Nat).length = 2 := rfl
        refine e_aload_n dd_Sq_squeezeRuns_68 rfl ?_
        refine e_sipush_n 246 dd_Sq_squeezeRuns_69 (by decide) ?_
        refine e_iload dd_Sq_squeezeRuns_72 rfl ?_
        refine e_iadd_n dd_Sq_squeezeRuns_74 ?_
        refine e_callVi (d1 := rr_Row_append) (As := [.int (nI (246 + n))]) (st := []) dd_Sq_squeezeRuns_75 km_Sq_40 hr2 rfl (by decide) rfl (Nat.le_of_ble_eq_true rfl) (Nat.le_of_ble_eq_true rfl) rfl rfl (c_Row_app h2 (by omega) (by omega)) (fun w5 h5 => ?_)
        have hr2 := h5.2.obj
        have e5 : (acc ++ [246 + n]).length = acc.length + 1 := by simp
        refine e_pop dd_Sq_squeezeRuns_78 rfl ?_
        refine e_aload_n dd_Sq_squeezeRuns_79 rfl ?_
        refine e_iload_n dd_Sq_squeezeRuns_80 rfl ?_
        refine e_callVi (d1 := rr_Row_append) (As := [.int (nI v)]) (st := []) dd_Sq_squeezeRuns_81 km_Sq_40 hr2 rfl (by decide) rfl (Nat.le_of_ble_eq_true rfl) (Nat.le_of_ble_eq_true rfl) rfl rfl (c_Row_app h5.2 hv (by omega)) (fun w6 h6 => ?_)
        have h7 := h6.2
        rw [List.append_assoc] at h7
        refine e_pop dd_Sq_squeezeRuns_84 rfl ?_
        refine e_iload_n dd_Sq_squeezeRuns_85 rfl ?_
        refine e_iload dd_Sq_squeezeRuns_86 rfl ?_
        refine e_iadd_n dd_Sq_squeezeRuns_88 ?_
        refine e_istore_n (lv1 := [(0, .ref r), (1, .ref r2), (2, .int (nI (p + n))), (3, .int (nI v)), (4, .int (nI n))]) dd_Sq_squeezeRuns_89 (by decide) rfl ?_
        refine e_goto (tgt := 2) dd_Sq_squeezeRuns_90 (by decide) ?_
        refine e_rm (lv1 := [(0, .ref r), (1, .ref r2), (2, .int (nI (p + n))), (4, .int (nI n))]) 3 rfl ?_
        refine e_rm (lv1 := [(0, .ref r), (1, .ref r2), (2, .int (nI (p + n)))]) 4 rfl ?_
        exact ih (p + n) _ (acc ++ ([246 + n] ++ [v])) [] (by omega) (by rw [← ht]; simp) hpn (hS.tr (h5.1.tr h6.1)) h7
      · refine e_iload_n dd_Sq_squeezeRuns_50 rfl ?_
        refine e_sipush_n 246 dd_Sq_squeezeRuns_51 (by decide) ?_
        refine e_icmp_ge_n (tgt := 68) dd_Sq_squeezeRuns_54 (by decide) (by omega) (by omega) (fun c54 => ?_) (fun c54 => ?_)
        · have e8 : rn1 n v = [246 + n, v] := if_neg (by omega)
          rw [e8] at ht
          have e7 := congrArg List.length ht
          rw [List.length_append, List.length_append] at e7
          have e6 : ([246 + n, v] : List Nat).length = 2 := rfl
          refine e_aload_n dd_Sq_squeezeRuns_68 rfl ?_
          refine e_sipush_n 246 dd_Sq_squeezeRuns_69 (by decide) ?_
          refine e_iload dd_Sq_squeezeRuns_72 rfl ?_
          refine e_iadd_n dd_Sq_squeezeRuns_74 ?_
          refine e_callVi (d1 := rr_Row_append) (As := [.int (nI (246 + n))]) (st := []) dd_Sq_squeezeRuns_75 km_Sq_40 hr2 rfl (by decide) rfl (Nat.le_of_ble_eq_true rfl) (Nat.le_of_ble_eq_true rfl) rfl rfl (c_Row_app h2 (by omega) (by omega)) (fun w5 h5 => ?_)
          have hr2 := h5.2.obj
          have e5 : (acc ++ [246 + n]).length = acc.length + 1 := by simp
          refine e_pop dd_Sq_squeezeRuns_78 rfl ?_
          refine e_aload_n dd_Sq_squeezeRuns_79 rfl ?_
          refine e_iload_n dd_Sq_squeezeRuns_80 rfl ?_
          refine e_callVi (d1 := rr_Row_append) (As := [.int (nI v)]) (st := []) dd_Sq_squeezeRuns_81 km_Sq_40 hr2 rfl (by decide) rfl (Nat.le_of_ble_eq_true rfl) (Nat.le_of_ble_eq_true rfl) rfl rfl (c_Row_app h5.2 hv (by omega)) (fun w6 h6 => ?_)
          have h7 := h6.2
          rw [List.append_assoc] at h7
          refine e_pop dd_Sq_squeezeRuns_84 rfl ?_
          refine e_iload_n dd_Sq_squeezeRuns_85 rfl ?_
          refine e_iload dd_Sq_squeezeRuns_86 rfl ?_
          refine e_iadd_n dd_Sq_squeezeRuns_88 ?_
          refine e_istore_n (lv1 := [(0, .ref r), (1, .ref r2), (2, .int (nI (p + n))), (3, .int (nI v)), (4, .int (nI n))]) dd_Sq_squeezeRuns_89 (by decide) rfl ?_
          refine e_goto (tgt := 2) dd_Sq_squeezeRuns_90 (by decide) ?_
          refine e_rm (lv1 := [(0, .ref r), (1, .ref r2), (2, .int (nI (p + n))), (4, .int (nI n))]) 3 rfl ?_
          refine e_rm (lv1 := [(0, .ref r), (1, .ref r2), (2, .int (nI (p + n)))]) 4 rfl ?_
          exact ih (p + n) _ (acc ++ ([246 + n] ++ [v])) [] (by omega) (by rw [← ht]; simp) hpn (hS.tr (h5.1.tr h6.1)) h7
        · have e8 : rn1 n v = List.replicate n v := if_pos (by omega)
          rw [e8] at ht
          have e7 := congrArg List.length ht
          rw [List.length_append, List.length_append, List.length_replicate] at e7
          have e6 : acc.length + n ≤ cap2 := by omega
          have h4 := c_Row_appendTimes (G := G) h2 hv (t := n) (by omega)
          rw [if_pos e6, decide_eq_true e6] at h4
          refine e_aload_n dd_Sq_squeezeRuns_57 rfl ?_
          refine e_iload_n dd_Sq_squeezeRuns_58 rfl ?_
          refine e_iload dd_Sq_squeezeRuns_59 rfl ?_
          refine e_callVi (d1 := rr_Row_appendTimes) (As := [.int (nI v), .int (nI n)]) (st := []) dd_Sq_squeezeRuns_61 km_Sq_36 hr2 rfl (by decide) rfl (Nat.le_of_ble_eq_true rfl) (Nat.le_of_ble_eq_true rfl) rfl rfl (h4) (fun w5 h5 => ?_)
          refine e_pop dd_Sq_squeezeRuns_64 rfl ?_
          refine e_goto (tgt := 85) dd_Sq_squeezeRuns_65 (by decide) ?_
          refine e_iload_n dd_Sq_squeezeRuns_85 rfl ?_
          refine e_iload dd_Sq_squeezeRuns_86 rfl ?_
          refine e_iadd_n dd_Sq_squeezeRuns_88 ?_
          refine e_istore_n (lv1 := [(0, .ref r), (1, .ref r2), (2, .int (nI (p + n))), (3, .int (nI v)), (4, .int (nI n))]) dd_Sq_squeezeRuns_89 (by decide) rfl ?_
          refine e_goto (tgt := 2) dd_Sq_squeezeRuns_90 (by decide) ?_
          refine e_rm (lv1 := [(0, .ref r), (1, .ref r2), (2, .int (nI (p + n))), (4, .int (nI n))]) 3 rfl ?_
          refine e_rm (lv1 := [(0, .ref r), (1, .ref r2), (2, .int (nI (p + n)))]) 4 rfl ?_
          exact ih (p + n) _ (acc ++ List.replicate n v) [] (by omega) (by rw [← ht]; simp) hpn (hS.tr h5.1) h5.2
theorem c_Sq_squeezeRuns (h : cR w r a cap xs) (h2 : cR w r2 a2 cap2 []) (n1 : r ≠ r2) (n4 : a ≠ a2) (hl : (runs xs).length ≤ cap2) : ab_E G mm_Sq_squeezeRuns rr_Sq_squeezeRuns 0 [(0, .ref r), (1, .ref r2)] [] w (pV fun w2 => rS w w2 r2 a2 ∧ cR w2 r2 a2 cap2 (runs xs)) := by
  have n2 := h.ne_oa h2
  have n3 := (h2.ne_oa h).symm
  refine e_iconst_n 0 dd_Sq_squeezeRuns_0 (by decide) ?_
  refine e_istore_n (lv1 := [(0, .ref r), (1, .ref r2), (2, .int (nI 0))]) dd_Sq_squeezeRuns_1 (by decide) rfl ?_
  exact l_Sq_runs h n1 n2 n3 n4 (runs xs) hl xs.length 0 w [] [] (by omega) (by simp [runs]) (Nat.zero_le _) rS.rf h2
end SQ
