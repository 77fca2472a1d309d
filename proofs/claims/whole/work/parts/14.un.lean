/-! Unsqueezing. What the bytes p .. e - 1 of the image stand for, whatever its length; none: they are not made of pieces. -/
def uR (im : List Nat) (e : Nat) : Nat → Nat → List Nat → Option (List Nat)
  | 0, _, acc => some acc
  | k + 1, p, acc => if p < e then (if 246 ≤ im.getD p 0 then (if im.getD p 0 = 246 ∨ e ≤ p + 1 then none else uR im e k (p + 2) (acc ++ List.replicate (im.getD p 0 - 246) (im.getD (p + 1) 0))) else uR im e k (p + 1) (acc ++ [im.getD p 0])) else some acc
def cpB (w : Nat) : Nat → List Nat → List Nat
  | 0, acc => acc
  | n + 1, acc => cpB w n (acc ++ [acc.getD (acc.length - (w + 1)) 0])
def uC (im : List Nat) (e : Nat) : Nat → Nat → List Nat → Option (List Nat)
  | 0, _, acc => some acc
  | k + 1, p, acc => if p < e then (if 64 ≤ im.getD p 0 then none else if 32 ≤ im.getD p 0 then (if e ≤ p + 1 then none else if 32 < im.getD (p + 1) 0 + 1 ∨ acc.length < im.getD (p + 1) 0 + 1 then none else uC im e k (p + 2) (cpB (im.getD (p + 1) 0) (im.getD p 0 - 32 + 3) acc)) else (if e ≤ p + (im.getD p 0 + 1) then none else uC im e k (p + (1 + (im.getD p 0 + 1))) (acc ++ (im.drop (p + 1)).take (im.getD p 0 + 1)))) else some acc
def unsq (m : Nat) (im : List Nat) (p e : Nat) : Option (List Nat) := if m = 1 then uR im e (e - p) p [] else if m = 2 then uC im e (e - p) p [] else some ((im.drop p).take (e - p))
def uOK (cap : Nat) (o : Option (List Nat)) : Bool := match o with
  | some ys => decide (ys.length ≤ cap)
  | none => false
theorem uR_mono (im : List Nat) (e : Nat) : ∀ k p acc ys, uR im e k p acc = some ys → acc.length ≤ ys.length
  | 0, p, acc, ys, h => by
    cases h
    exact Nat.le_refl _
  | k + 1, p, acc, ys, h => by
    unfold uR at h
    split at h
    · split at h
      · split at h
        · cases h
        · have := uR_mono im e k _ _ ys h
          rw [List.length_append] at this
          omega
      · have := uR_mono im e k _ _ ys h
        rw [List.length_append] at this
        omega
    · cases h
      exact Nat.le_refl _
theorem cpB_len (w : Nat) : ∀ n acc, (cpB w n acc).length = acc.length + n
  | 0, acc => rfl
  | n + 1, acc => by
    rw [cpB, cpB_len w n, List.length_append]
    simp
    omega
theorem uC_mono (im : List Nat) (e : Nat) : ∀ k p acc ys, uC im e k p acc = some ys → acc.length ≤ ys.length
  | 0, p, acc, ys, h => by
    cases h
    exact Nat.le_refl _
  | k + 1, p, acc, ys, h => by
    unfold uC at h
    split at h
    · split at h
      · cases h
      · split at h
        · split at h
          · cases h
          · split at h
            · cases h
            · have := uC_mono im e k _ _ ys h
              rw [cpB_len] at this
              omega
        · split at h
          · cases h
          · have := uC_mono im e k _ _ ys h
            rw [List.length_append] at this
            omega
    · cases h
      exact Nat.le_refl _
theorem uOK_f {cap n : Nat} {o : Option (List Nat)} (h : ∀ ys, o = some ys → n ≤ ys.length) (hn : cap < n) : uOK cap o = false := by
  cases o with
  | none => rfl
  | some ys =>
    have := h ys rfl
    simp [uOK]
    omega
theorem uOK_t {cap : Nat} {ys : List Nat} (h : ys.length ≤ cap) : uOK cap (some ys) = true := by simp [uOK, h]
def uQ (w : ab_W) (r2 a2 cap2 : Nat) (o : Option (List Nat)) : ab_W → Prop := fun w2 => rS w w2 r2 a2 ∧ ∃ zs, cR w2 r2 a2 cap2 zs ∧ (uOK cap2 o = true → o = some zs)
section UN
variable {G : ab_G} {w : ab_W} {r a cap r2 a2 cap2 : Nat} {im : List Nat}
set_option maxRecDepth 100000 in
set_option maxHeartbeats 4000000 in
theorem l_Un_runs (h : cR w r a cap im) (n1 : r ≠ r2) (n2 : r ≠ a2) (n3 : a ≠ r2) (n4 : a ≠ a2) {b e : Nat} (he : e ≤ im.length) : ∀ (k p : Nat) (w1 : ab_W) (acc : List Nat), e ≤ p + k → p ≤ 200000 → rS w w1 r2 a2 → cR w1 r2 a2 cap2 acc → ab_E G mm_Un_unsqueezeRuns rr_Un_unsqueezeRuns 3 [(0, .ref r), (1, .int (nI b)), (2, .int (nI e)), (3, .ref r2), (4, .int (nI p))] [] w1 (pI (bI (uOK cap2 (uR im e k p acc))) (uQ w r2 a2 cap2 (uR im e k p acc))) := by
  have hlt := h.lt
  have hby := h.2.2.2.2.1
  intro k
  induction k with
  | zero =>
    intro p w1 acc hk hp hS h2
    have hle := h2.2.1
    refine e_iload dd_Un_unsqueezeRuns_3 rfl ?_
    refine e_iload_n dd_Un_unsqueezeRuns_5 rfl ?_
    refine e_icmp_ge_n (tgt := 114) dd_Un_unsqueezeRuns_6 (by decide) (by omega) (by omega) (fun _ => ?_) (fun h9 => absurd h9 (by omega))
    refine e_iconst_n 1 dd_Un_unsqueezeRuns_114 (by decide) ?_
    exact e_zret dd_Un_unsqueezeRuns_115 rfl (by decide) (pI_of (bI_t (uOK_t hle)) ⟨hS, acc, h2, fun _ => rfl⟩)
  | succ k ih =>
    intro p w1 acc hk hp hS h2
    have hle := h2.2.1
    have h1 := h.fr hS n1 n2 n3 n4
    have hr := h1.obj
    have hr2 := h2.obj
    unfold uR
    refine e_iload dd_Un_unsqueezeRuns_3 rfl ?_
    refine e_iload_n dd_Un_unsqueezeRuns_5 rfl ?_
    refine e_icmp_ge_n (tgt := 114) dd_Un_unsqueezeRuns_6 (by decide) (by omega) (by omega) (fun c6 => ?_) (fun c6 => ?_)
    · rw [if_neg (by omega)]
      refine e_iconst_n 1 dd_Un_unsqueezeRuns_114 (by decide) ?_
      exact e_zret dd_Un_unsqueezeRuns_115 rfl (by decide) (pI_of (bI_t (uOK_t hle)) ⟨hS, acc, h2, fun _ => rfl⟩)
    · rw [if_pos c6]
      have hv := getD_lt hby (j := p) (by omega)
      refine e_aload_n dd_Un_unsqueezeRuns_9 rfl ?_
      refine e_iload dd_Un_unsqueezeRuns_10 rfl ?_
      refine e_callVp (d1 := rr_Row_at) (As := [.int (nI p)]) (st := []) dd_Un_unsqueezeRuns_12 km_Un_44 hr rfl (by decide) rfl (Nat.le_of_ble_eq_true rfl) (Nat.le_of_ble_eq_true rfl) rfl rfl (c_Row_ati h1 (by omega)) ?_
      generalize hve : im.getD p 0 = v at hv ⊢
      refine e_istore (lv1 := [(0, .ref r), (1, .int (nI b)), (2, .int (nI e)), (3, .ref r2), (4, .int (nI p)), (5, .int (nI v))]) dd_Un_unsqueezeRuns_15 (by decide) rfl ?_
      refine e_iload dd_Un_unsqueezeRuns_17 rfl ?_
      refine e_sipush_n 246 dd_Un_unsqueezeRuns_19 (by decide) ?_
      refine e_icmp_lt_n (tgt := 29) dd_Un_unsqueezeRuns_22 (by decide) (by omega) (by omega) (fun c22 => ?_) (fun c22 => ?_)
      · rw [if_neg (by omega)]
        refine e_iconst_n 0 dd_Un_unsqueezeRuns_29 (by decide) ?_
        refine e_istore (lv1 := [(0, .ref r), (1, .int (nI b)), (2, .int (nI e)), (3, .ref r2), (4, .int (nI p)), (5, .int (nI v)), (6, .int (nI 0))]) dd_Un_unsqueezeRuns_30 (by decide) rfl ?_
        refine e_iload dd_Un_unsqueezeRuns_32 rfl ?_
        refine e_if_eq_n (tgt := 55) dd_Un_unsqueezeRuns_34 (by decide) (by omega) (fun _ => ?_) (fun h9 => absurd h9 (by decide))
        refine e_iload dd_Un_unsqueezeRuns_55 rfl ?_
        refine e_if_eq_n (tgt := 81) dd_Un_unsqueezeRuns_57 (by decide) (by omega) (fun _ => ?_) (fun h9 => absurd h9 (by decide))
        refine e_aload_n dd_Un_unsqueezeRuns_81 rfl ?_
        refine e_iload dd_Un_unsqueezeRuns_82 rfl ?_
        have h4 := c_Row_append (G := G) h2 hv
        by_cases e6 : acc.length < cap2
        · rw [if_pos e6, decide_eq_true e6] at h4
          refine e_callVi (d1 := rr_Row_append) (As := [.int (nI v)]) (st := []) dd_Un_unsqueezeRuns_84 km_Un_52 hr2 rfl (by decide) rfl (Nat.le_of_ble_eq_true rfl) (Nat.le_of_ble_eq_true rfl) rfl rfl (h4) (fun w5 h5 => ?_)
          refine e_istore (lv1 := [(0, .ref r), (1, .int (nI b)), (2, .int (nI e)), (3, .ref r2), (4, .int (nI p)), (5, .int (nI v)), (6, .int (nI 0)), (7, .int (bI true))]) dd_Un_unsqueezeRuns_87 (by decide) rfl ?_
          refine e_iload dd_Un_unsqueezeRuns_89 rfl ?_
          refine e_if_ne_b (tgt := 96) dd_Un_unsqueezeRuns_91 (by decide) (fun _ => ?_) (fun h9 => absurd h9 (by decide))
          refine e_iload dd_Un_unsqueezeRuns_96 rfl ?_
          refine e_iload dd_Un_unsqueezeRuns_98 rfl ?_
          refine e_if_eq_n (tgt := 107) dd_Un_unsqueezeRuns_100 (by decide) (by omega) (fun _ => ?_) (fun h9 => absurd h9 (by decide))
          refine e_iconst_n 1 dd_Un_unsqueezeRuns_107 (by decide) ?_
          refine e_iadd_n dd_Un_unsqueezeRuns_108 ?_
          refine e_istore (lv1 := [(0, .ref r), (1, .int (nI b)), (2, .int (nI e)), (3, .ref r2), (4, .int (nI (p + 1))), (5, .int (nI v)), (6, .int (nI 0)), (7, .int (bI true))]) dd_Un_unsqueezeRuns_109 (by decide) rfl ?_
          refine e_goto (tgt := 3) dd_Un_unsqueezeRuns_111 (by decide) ?_
          refine e_rm (lv1 := [(0, .ref r), (1, .int (nI b)), (2, .int (nI e)), (3, .ref r2), (4, .int (nI (p + 1))), (6, .int (nI 0)), (7, .int (bI true))]) 5 rfl ?_
          refine e_rm (lv1 := [(0, .ref r), (1, .int (nI b)), (2, .int (nI e)), (3, .ref r2), (4, .int (nI (p + 1))), (7, .int (bI true))]) 6 rfl ?_
          refine e_rm (lv1 := [(0, .ref r), (1, .int (nI b)), (2, .int (nI e)), (3, .ref r2), (4, .int (nI (p + 1)))]) 7 rfl ?_
          exact ih (p + 1) _ (acc ++ [v]) (by omega) (by omega) (hS.tr h5.1) h5.2
        · rw [if_neg e6, decide_eq_false e6] at h4
          refine e_callVi (d1 := rr_Row_append) (As := [.int (nI v)]) (st := []) dd_Un_unsqueezeRuns_84 km_Un_52 hr2 rfl (by decide) rfl (Nat.le_of_ble_eq_true rfl) (Nat.le_of_ble_eq_true rfl) rfl rfl (h4) (fun w5 h5 => ?_)
          refine e_istore (lv1 := [(0, .ref r), (1, .int (nI b)), (2, .int (nI e)), (3, .ref r2), (4, .int (nI p)), (5, .int (nI v)), (6, .int (nI 0)), (7, .int (bI false))]) dd_Un_unsqueezeRuns_87 (by decide) rfl ?_
          refine e_iload dd_Un_unsqueezeRuns_89 rfl ?_
          refine e_if_ne_b (tgt := 96) dd_Un_unsqueezeRuns_91 (by decide) (fun h9 => absurd h9 (by decide)) (fun _ => ?_)
          refine e_iconst_n 0 dd_Un_unsqueezeRuns_94 (by decide) ?_
          have e8 : uOK cap2 (uR im e k (p + 1) (acc ++ [v])) = false := uOK_f (uR_mono im e k _ _) (by simp; omega)
          exact e_zret dd_Un_unsqueezeRuns_95 rfl (by decide) (pI_of (bI_f e8) ⟨hS.tr h5.1, acc, h5.2, fun h9 => absurd h9 (by rw [e8]; decide)⟩)
      · rw [if_pos c22]
        refine e_iconst_n 1 dd_Un_unsqueezeRuns_25 (by decide) ?_
        refine e_goto (tgt := 30) dd_Un_unsqueezeRuns_26 (by decide) ?_
        refine e_istore (lv1 := [(0, .ref r), (1, .int (nI b)), (2, .int (nI e)), (3, .ref r2), (4, .int (nI p)), (5, .int (nI v)), (6, .int (nI 1))]) dd_Un_unsqueezeRuns_30 (by decide) rfl ?_
        refine e_iload dd_Un_unsqueezeRuns_32 rfl ?_
        refine e_if_eq_n (tgt := 55) dd_Un_unsqueezeRuns_34 (by decide) (by omega) (fun h9 => absurd h9 (by decide)) (fun _ => ?_)
        refine e_iload dd_Un_unsqueezeRuns_37 rfl ?_
        refine e_sipush_n 246 dd_Un_unsqueezeRuns_39 (by decide) ?_
        refine e_icmp_eq_n (tgt := 53) dd_Un_unsqueezeRuns_42 (by decide) (by omega) (by omega) (fun c42 => ?_) (fun c42 => ?_)
        · rw [if_pos (Or.inl c42)]
          refine e_iconst_n 0 dd_Un_unsqueezeRuns_53 (by decide) ?_
          exact e_zret dd_Un_unsqueezeRuns_54 rfl (by decide) (pI_of rfl ⟨hS, acc, h2, fun h9 => absurd h9 Bool.false_ne_true⟩)
        · refine e_iload dd_Un_unsqueezeRuns_45 rfl ?_
          refine e_iconst_n 1 dd_Un_unsqueezeRuns_47 (by decide) ?_
          refine e_iadd_n dd_Un_unsqueezeRuns_48 ?_
          refine e_iload_n dd_Un_unsqueezeRuns_49 rfl ?_
          refine e_icmp_lt_n (tgt := 55) dd_Un_unsqueezeRuns_50 (by decide) (by omega) (by omega) (fun c50 => ?_) (fun c50 => ?_)
          · rw [if_neg (by omega)]
            have hv2 := getD_lt hby (j := p + 1) (by omega)
            refine e_iload dd_Un_unsqueezeRuns_55 rfl ?_
            refine e_if_eq_n (tgt := 81) dd_Un_unsqueezeRuns_57 (by decide) (by omega) (fun h9 => absurd h9 (by decide)) (fun _ => ?_)
            refine e_aload_n dd_Un_unsqueezeRuns_60 rfl ?_
            refine e_aload_n dd_Un_unsqueezeRuns_61 rfl ?_
            refine e_iload dd_Un_unsqueezeRuns_62 rfl ?_
            refine e_iconst_n 1 dd_Un_unsqueezeRuns_64 (by decide) ?_
            refine e_iadd_n dd_Un_unsqueezeRuns_65 ?_
            refine e_callVp (d1 := rr_Row_at) (As := [.int (nI (p + 1))]) (st := [.ref r2]) dd_Un_unsqueezeRuns_66 km_Un_44 hr rfl (by decide) rfl (Nat.le_of_ble_eq_true rfl) (Nat.le_of_ble_eq_true rfl) rfl rfl (c_Row_ati h1 (by omega)) ?_
            generalize hue : im.getD (p + 1) 0 = u at hv2 ⊢
            refine e_iload dd_Un_unsqueezeRuns_69 rfl ?_
            refine e_sipush_n 246 dd_Un_unsqueezeRuns_71 (by decide) ?_
            refine e_isub_n dd_Un_unsqueezeRuns_74 (by omega) ?_
            have h4 := c_Row_appendTimes (G := G) h2 hv2 (t := v - 246) (by omega)
            by_cases e6 : acc.length + (v - 246) ≤ cap2
            · rw [if_pos e6, decide_eq_true e6] at h4
              refine e_callVi (d1 := rr_Row_appendTimes) (As := [.int (nI u), .int (nI (v - 246))]) (st := []) dd_Un_unsqueezeRuns_75 km_Un_48 hr2 rfl (by decide) rfl (Nat.le_of_ble_eq_true rfl) (Nat.le_of_ble_eq_true rfl) rfl rfl (h4) (fun w5 h5 => ?_)
              refine e_goto (tgt := 87) dd_Un_unsqueezeRuns_78 (by decide) ?_
              refine e_istore (lv1 := [(0, .ref r), (1, .int (nI b)), (2, .int (nI e)), (3, .ref r2), (4, .int (nI p)), (5, .int (nI v)), (6, .int (nI 1)), (7, .int (bI true))]) dd_Un_unsqueezeRuns_87 (by decide) rfl ?_
              refine e_iload dd_Un_unsqueezeRuns_89 rfl ?_
              refine e_if_ne_b (tgt := 96) dd_Un_unsqueezeRuns_91 (by decide) (fun _ => ?_) (fun h9 => absurd h9 (by decide))
              refine e_iload dd_Un_unsqueezeRuns_96 rfl ?_
              refine e_iload dd_Un_unsqueezeRuns_98 rfl ?_
              refine e_if_eq_n (tgt := 107) dd_Un_unsqueezeRuns_100 (by decide) (by omega) (fun h9 => absurd h9 (by decide)) (fun _ => ?_)
              refine e_iconst_n 2 dd_Un_unsqueezeRuns_103 (by decide) ?_
              refine e_goto (tgt := 108) dd_Un_unsqueezeRuns_104 (by decide) ?_
              refine e_iadd_n dd_Un_unsqueezeRuns_108 ?_
              refine e_istore (lv1 := [(0, .ref r), (1, .int (nI b)), (2, .int (nI e)), (3, .ref r2), (4, .int (nI (p + 2))), (5, .int (nI v)), (6, .int (nI 1)), (7, .int (bI true))]) dd_Un_unsqueezeRuns_109 (by decide) rfl ?_
              refine e_goto (tgt := 3) dd_Un_unsqueezeRuns_111 (by decide) ?_
              refine e_rm (lv1 := [(0, .ref r), (1, .int (nI b)), (2, .int (nI e)), (3, .ref r2), (4, .int (nI (p + 2))), (6, .int (nI 1)), (7, .int (bI true))]) 5 rfl ?_
              refine e_rm (lv1 := [(0, .ref r), (1, .int (nI b)), (2, .int (nI e)), (3, .ref r2), (4, .int (nI (p + 2))), (7, .int (bI true))]) 6 rfl ?_
              refine e_rm (lv1 := [(0, .ref r), (1, .int (nI b)), (2, .int (nI e)), (3, .ref r2), (4, .int (nI (p + 2)))]) 7 rfl ?_
              exact ih (p + 2) _ (acc ++ List.replicate (v - 246) u) (by omega) (by omega) (hS.tr h5.1) h5.2
            · rw [if_neg e6, decide_eq_false e6] at h4
              refine e_callVi (d1 := rr_Row_appendTimes) (As := [.int (nI u), .int (nI (v - 246))]) (st := []) dd_Un_unsqueezeRuns_75 km_Un_48 hr2 rfl (by decide) rfl (Nat.le_of_ble_eq_true rfl) (Nat.le_of_ble_eq_true rfl) rfl rfl (h4) (fun w5 h5 => ?_)
              refine e_goto (tgt := 87) dd_Un_unsqueezeRuns_78 (by decide) ?_
              refine e_istore (lv1 := [(0, .ref r), (1, .int (nI b)), (2, .int (nI e)), (3, .ref r2), (4, .int (nI p)), (5, .int (nI v)), (6, .int (nI 1)), (7, .int (bI false))]) dd_Un_unsqueezeRuns_87 (by decide) rfl ?_
              refine e_iload dd_Un_unsqueezeRuns_89 rfl ?_
              refine e_if_ne_b (tgt := 96) dd_Un_unsqueezeRuns_91 (by decide) (fun h9 => absurd h9 (by decide)) (fun _ => ?_)
              refine e_iconst_n 0 dd_Un_unsqueezeRuns_94 (by decide) ?_
              have e8 : uOK cap2 (uR im e k (p + 2) (acc ++ List.replicate (v - 246) u)) = false := uOK_f (uR_mono im e k _ _) (by simp; omega)
              exact e_zret dd_Un_unsqueezeRuns_95 rfl (by decide) (pI_of (bI_f e8) ⟨hS.tr h5.1, acc, h5.2, fun h9 => absurd h9 (by rw [e8]; decide)⟩)
          · rw [if_pos (Or.inr c50)]
            refine e_iconst_n 0 dd_Un_unsqueezeRuns_53 (by decide) ?_
            exact e_zret dd_Un_unsqueezeRuns_54 rfl (by decide) (pI_of rfl ⟨hS, acc, h2, fun h9 => absurd h9 Bool.false_ne_true⟩)
set_option maxRecDepth 100000 in
set_option maxHeartbeats 4000000 in
theorem c_Un_unsqueezeRuns (h : cR w r a cap im) (h2 : cR w r2 a2 cap2 []) (n1 : r ≠ r2) (n4 : a ≠ a2) {b e : Nat} (he : e ≤ im.length) (hb : b ≤ 100000) : ab_E G mm_Un_unsqueezeRuns rr_Un_unsqueezeRuns 0 [(0, .ref r), (1, .int (nI b)), (2, .int (nI e)), (3, .ref r2)] [] w (pI (bI (uOK cap2 (uR im e (e - b) b []))) (uQ w r2 a2 cap2 (uR im e (e - b) b []))) := by
  have n2 := h.ne_oa h2
  have n3 := (h2.ne_oa h).symm
  refine e_iload_n dd_Un_unsqueezeRuns_0 rfl ?_
  refine e_istore (lv1 := [(0, .ref r), (1, .int (nI b)), (2, .int (nI e)), (3, .ref r2), (4, .int (nI b))]) dd_Un_unsqueezeRuns_1 (by decide) rfl ?_
  exact l_Un_runs h n1 n2 n3 n4 he (e - b) b w [] (by omega) (by omega) rS.rf h2
set_option maxRecDepth 100000 in
set_option maxHeartbeats 4000000 in
theorem l_Un_copyBack {n d : Nat} (hn : n ≤ 1000) (hd : d < 32) {cap : Nat} : ∀ (k i : Nat) (w1 : ab_W) (acc : List Nat), i + k = n → d + 1 ≤ acc.length → rS w w1 r a → cR w1 r a cap acc → ab_E G mm_Un_copyBack rr_Un_copyBack 18 [(0, .ref r), (1, .int (nI n)), (2, .int (nI (d + 1))), (3, .int (nI i))] [] w1 (pI (bI (decide (acc.length + k ≤ cap))) fun w2 => rS w w2 r a ∧ ∃ zs, cR w2 r a cap zs ∧ (acc.length + k ≤ cap → zs = cpB d k acc)) := by
  intro k
  induction k with
  | zero =>
    intro i w1 acc hi ha hS h
    have hle := h.2.1
    refine e_iload_n dd_Un_copyBack_18 rfl ?_
    refine e_iload_n dd_Un_copyBack_19 rfl ?_
    refine e_icmp_ge_n (tgt := 48) dd_Un_copyBack_20 (by decide) (by omega) (by omega) (fun _ => ?_) (fun h9 => absurd h9 (by omega))
    refine e_iconst_n 1 dd_Un_copyBack_48 (by decide) ?_
    exact e_zret dd_Un_copyBack_49 rfl (by decide) (pI_of (bI_t (by simpa using hle)) ⟨hS, acc, h, fun _ => rfl⟩)
  | succ k ih =>
    intro i w1 acc hi ha hS h
    have hlt := h.lt
    have hle := h.2.1
    have hr := h.obj
    have hby := h.2.2.2.2.1
    refine e_iload_n dd_Un_copyBack_18 rfl ?_
    refine e_iload_n dd_Un_copyBack_19 rfl ?_
    refine e_icmp_ge_n (tgt := 48) dd_Un_copyBack_20 (by decide) (by omega) (by omega) (fun h9 => absurd h9 (by omega)) (fun _ => ?_)
    refine e_aload_n dd_Un_copyBack_23 rfl ?_
    refine e_aload_n dd_Un_copyBack_24 rfl ?_
    refine e_aload_n dd_Un_copyBack_25 rfl ?_
    refine e_get dd_Un_copyBack_26 kf_Un_40 hr rfl ?_
    refine e_iload_n dd_Un_copyBack_29 rfl ?_
    refine e_isub_n dd_Un_copyBack_30 (by omega) ?_
    refine e_callVp (d1 := rr_Row_at) (As := [.int (nI (acc.length - (d + 1)))]) (st := [.ref r]) dd_Un_copyBack_31 km_Un_44 hr rfl (by decide) rfl (Nat.le_of_ble_eq_true rfl) (Nat.le_of_ble_eq_true rfl) rfl rfl (c_Row_ati h (by omega)) ?_
    have hv := getD_lt hby (j := acc.length - (d + 1)) (by omega)
    unfold cpB
    generalize acc.getD (acc.length - (d + 1)) 0 = v at hv ⊢
    have h4 := c_Row_append (G := G) h hv
    by_cases e6 : acc.length < cap
    · rw [if_pos e6, decide_eq_true e6] at h4
      refine e_callVi (d1 := rr_Row_append) (As := [.int (nI v)]) (st := []) dd_Un_copyBack_34 km_Un_52 hr rfl (by decide) rfl (Nat.le_of_ble_eq_true rfl) (Nat.le_of_ble_eq_true rfl) rfl rfl (h4) (fun w5 h5 => ?_)
      refine e_if_ne_b (tgt := 42) dd_Un_copyBack_37 (by decide) (fun _ => ?_) (fun h9 => absurd h9 (by decide))
      refine e_iinc_n (a := i) (k := 1) (lv1 := [(0, .ref r), (1, .int (nI n)), (2, .int (nI (d + 1))), (3, .int (nI (i + 1)))]) dd_Un_copyBack_42 rfl (by decide) (by decide) rfl ?_
      refine e_goto (tgt := 18) dd_Un_copyBack_45 (by decide) ?_
      have e7 : (acc ++ [v]).length = acc.length + 1 := by simp
      have K := ih (i + 1) _ (acc ++ [v]) (by omega) (by omega) (hS.tr h5.1) h5.2
      rw [e7, show acc.length + 1 + k = acc.length + (k + 1) by omega] at K
      exact K
    · rw [if_neg e6, decide_eq_false e6] at h4
      refine e_callVi (d1 := rr_Row_append) (As := [.int (nI v)]) (st := []) dd_Un_copyBack_34 km_Un_52 hr rfl (by decide) rfl (Nat.le_of_ble_eq_true rfl) (Nat.le_of_ble_eq_true rfl) rfl rfl (h4) (fun w5 h5 => ?_)
      refine e_if_ne_b (tgt := 42) dd_Un_copyBack_37 (by decide) (fun h9 => absurd h9 (by decide)) (fun _ => ?_)
      refine e_iconst_n 0 dd_Un_copyBack_40 (by decide) ?_
      exact e_zret dd_Un_copyBack_41 rfl (by decide) (pI_of (bI_f (by simp; omega)) ⟨hS.tr h5.1, acc, h5.2, fun h9 => absurd h9 (by omega)⟩)
set_option maxRecDepth 100000 in
set_option maxHeartbeats 4000000 in
theorem c_Un_copyBack {acc : List Nat} (h : cR w r a cap acc) {n d : Nat} (hn : n ≤ 1000) (hd : d < 1000) : ab_E G mm_Un_copyBack rr_Un_copyBack 0 [(0, .ref r), (1, .int (nI n)), (2, .int (nI (d + 1)))] [] w (pI (bI (decide (¬ (32 < d + 1 ∨ acc.length < d + 1) ∧ acc.length + n ≤ cap))) fun w2 => rS w w2 r a ∧ ∃ zs, cR w2 r a cap zs ∧ (¬ (32 < d + 1 ∨ acc.length < d + 1) ∧ acc.length + n ≤ cap → zs = cpB d n acc)) := by
  have hlt := h.lt
  have hr := h.obj
  refine e_iload_n dd_Un_copyBack_0 rfl ?_
  refine e_bipush_n 32 dd_Un_copyBack_1 (by decide) ?_
  refine e_icmp_gt_n (tgt := 14) dd_Un_copyBack_3 (by decide) (by omega) (by omega) (fun c3 => ?_) (fun c3 => ?_)
  · refine e_iconst_n 0 dd_Un_copyBack_14 (by decide) ?_
    exact e_zret dd_Un_copyBack_15 rfl (by decide) (pI_of (bI_f (decide_eq_false (by omega))) ⟨rS.rf, acc, h, fun h9 => absurd h9 (by omega)⟩)
  · refine e_iload_n dd_Un_copyBack_6 rfl ?_
    refine e_aload_n dd_Un_copyBack_7 rfl ?_
    refine e_get dd_Un_copyBack_8 kf_Un_40 hr rfl ?_
    refine e_icmp_le_n (tgt := 16) dd_Un_copyBack_11 (by decide) (by omega) (by omega) (fun c11 => ?_) (fun c11 => ?_)
    · refine e_iconst_n 0 dd_Un_copyBack_16 (by decide) ?_
      refine e_istore_n (lv1 := [(0, .ref r), (1, .int (nI n)), (2, .int (nI (d + 1))), (3, .int (nI 0))]) dd_Un_copyBack_17 (by decide) rfl ?_
      have K := l_Un_copyBack (G := G) (w := w) (n := n) (d := d) hn (by omega) n 0 w acc (by omega) (by omega) rS.rf h
      have e9 : decide (¬ (32 < d + 1 ∨ acc.length < d + 1) ∧ acc.length + n ≤ cap) = decide (acc.length + n ≤ cap) := by
        apply decide_eq_decide.mpr
        omega
      rw [e9]
      exact K.mono (fun v w2 h9 => ⟨h9.1, h9.2.1, by
        obtain ⟨zs, g1, g2⟩ := h9.2.2
        exact ⟨zs, g1, fun g3 => g2 g3.2⟩⟩)
    · refine e_iconst_n 0 dd_Un_copyBack_14 (by decide) ?_
      exact e_zret dd_Un_copyBack_15 rfl (by decide) (pI_of (bI_f (decide_eq_false (by omega))) ⟨rS.rf, acc, h, fun h9 => absurd h9 (by omega)⟩)
end UN
