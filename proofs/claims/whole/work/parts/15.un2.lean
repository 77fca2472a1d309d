section UN
variable {G : ab_G} {w : ab_W} {r a cap r2 a2 cap2 : Nat} {im : List Nat}
set_option maxRecDepth 100000 in
set_option maxHeartbeats 4000000 in
theorem l_Un_copies (h : cR w r a cap im) (n1 : r ≠ r2) (n2 : r ≠ a2) (n3 : a ≠ r2) (n4 : a ≠ a2) {b e : Nat} (he : e ≤ im.length) : ∀ (k p : Nat) (w1 : ab_W) (acc : List Nat), e ≤ p + k → p ≤ 200000 → rS w w1 r2 a2 → cR w1 r2 a2 cap2 acc → ab_E G mm_Un_unsqueezeCopies rr_Un_unsqueezeCopies 3 [(0, .ref r), (1, .int (nI b)), (2, .int (nI e)), (3, .ref r2), (4, .int (nI p))] [] w1 (pI (bI (uOK cap2 (uC im e k p acc))) (uQ w r2 a2 cap2 (uC im e k p acc))) := by
  have hlt := h.lt
  have hby := h.2.2.2.2.1
  intro k
  induction k with
  | zero =>
    intro p w1 acc hk hp hS h2
    have hle := h2.2.1
    refine e_iload dd_Un_unsqueezeCopies_3 rfl ?_
    refine e_iload_n dd_Un_unsqueezeCopies_5 rfl ?_
    refine e_icmp_ge_n (tgt := 137) dd_Un_unsqueezeCopies_6 (by decide) (by omega) (by omega) (fun _ => ?_) (fun h9 => absurd h9 (by omega))
    refine e_iconst_n 1 dd_Un_unsqueezeCopies_137 (by decide) ?_
    exact e_zret dd_Un_unsqueezeCopies_138 rfl (by decide) (pI_of (bI_t (uOK_t hle)) ⟨hS, acc, h2, fun _ => rfl⟩)
  | succ k ih =>
    intro p w1 acc hk hp hS h2
    have hle := h2.2.1
    have hlt2 := h2.lt
    have h1 := h.fr hS n1 n2 n3 n4
    have hr := h1.obj
    have hr2 := h2.obj
    unfold uC
    refine e_iload dd_Un_unsqueezeCopies_3 rfl ?_
    refine e_iload_n dd_Un_unsqueezeCopies_5 rfl ?_
    refine e_icmp_ge_n (tgt := 137) dd_Un_unsqueezeCopies_6 (by decide) (by omega) (by omega) (fun c6 => ?_) (fun c6 => ?_)
    · rw [if_neg (by omega)]
      refine e_iconst_n 1 dd_Un_unsqueezeCopies_137 (by decide) ?_
      exact e_zret dd_Un_unsqueezeCopies_138 rfl (by decide) (pI_of (bI_t (uOK_t hle)) ⟨hS, acc, h2, fun _ => rfl⟩)
    · rw [if_pos c6]
      have hv := getD_lt hby (j := p) (by omega)
      refine e_aload_n dd_Un_unsqueezeCopies_9 rfl ?_
      refine e_iload dd_Un_unsqueezeCopies_10 rfl ?_
      refine e_callVp (d1 := rr_Row_at) (As := [.int (nI p)]) (st := []) dd_Un_unsqueezeCopies_12 km_Un_44 hr rfl (by decide) rfl (Nat.le_of_ble_eq_true rfl) (Nat.le_of_ble_eq_true rfl) rfl rfl (c_Row_ati h1 (by omega)) ?_
      generalize hve : im.getD p 0 = v at hv ⊢
      refine e_istore (lv1 := [(0, .ref r), (1, .int (nI b)), (2, .int (nI e)), (3, .ref r2), (4, .int (nI p)), (5, .int (nI v))]) dd_Un_unsqueezeCopies_15 (by decide) rfl ?_
      refine e_iload dd_Un_unsqueezeCopies_17 rfl ?_
      refine e_if_lt_n (tgt := 29) dd_Un_unsqueezeCopies_19 (by decide) (by omega) ?_
      refine e_iload dd_Un_unsqueezeCopies_22 rfl ?_
      refine e_bipush_n 64 dd_Un_unsqueezeCopies_24 (by decide) ?_
      refine e_icmp_lt_n (tgt := 31) dd_Un_unsqueezeCopies_26 (by decide) (by omega) (by omega) (fun c26 => ?_) (fun c26 => ?_)
      · rw [if_neg (by omega)]
        refine e_iload dd_Un_unsqueezeCopies_31 rfl ?_
        refine e_bipush_n 32 dd_Un_unsqueezeCopies_33 (by decide) ?_
        refine e_icmp_lt_n (tgt := 42) dd_Un_unsqueezeCopies_35 (by decide) (by omega) (by omega) (fun c35 => ?_) (fun c35 => ?_)
        · rw [if_neg (by omega)]
          refine e_iconst_n 0 dd_Un_unsqueezeCopies_42 (by decide) ?_
          refine e_istore (lv1 := [(0, .ref r), (1, .int (nI b)), (2, .int (nI e)), (3, .ref r2), (4, .int (nI p)), (5, .int (nI v)), (6, .int (nI 0))]) dd_Un_unsqueezeCopies_43 (by decide) rfl ?_
          refine e_iload dd_Un_unsqueezeCopies_45 rfl ?_
          refine e_if_eq_n (tgt := 54) dd_Un_unsqueezeCopies_47 (by decide) (by omega) (fun _ => ?_) (fun h9 => absurd h9 (by decide))
          refine e_iload dd_Un_unsqueezeCopies_54 rfl ?_
          refine e_iconst_n 1 dd_Un_unsqueezeCopies_56 (by decide) ?_
          refine e_iadd_n dd_Un_unsqueezeCopies_57 ?_
          refine e_istore (lv1 := [(0, .ref r), (1, .int (nI b)), (2, .int (nI e)), (3, .ref r2), (4, .int (nI p)), (5, .int (nI v)), (6, .int (nI 0)), (7, .int (nI (v + 1)))]) dd_Un_unsqueezeCopies_58 (by decide) rfl ?_
          refine e_iload dd_Un_unsqueezeCopies_60 rfl ?_
          refine e_iload dd_Un_unsqueezeCopies_62 rfl ?_
          refine e_iadd_n dd_Un_unsqueezeCopies_64 ?_
          refine e_iload_n dd_Un_unsqueezeCopies_65 rfl ?_
          refine e_icmp_lt_n (tgt := 71) dd_Un_unsqueezeCopies_66 (by decide) (by omega) (by omega) (fun c66 => ?_) (fun c66 => ?_)
          · rw [if_neg (by omega)]
            refine e_iload dd_Un_unsqueezeCopies_71 rfl ?_
            refine e_if_eq_n (tgt := 100) dd_Un_unsqueezeCopies_73 (by decide) (by omega) (fun _ => ?_) (fun h9 => absurd h9 (by decide))
            refine e_aload_n dd_Un_unsqueezeCopies_100 rfl ?_
            refine e_aload_n dd_Un_unsqueezeCopies_101 rfl ?_
            refine e_iload dd_Un_unsqueezeCopies_102 rfl ?_
            refine e_iconst_n 1 dd_Un_unsqueezeCopies_104 (by decide) ?_
            refine e_iadd_n dd_Un_unsqueezeCopies_105 ?_
            refine e_iload dd_Un_unsqueezeCopies_106 rfl ?_
            refine e_iconst_n 1 dd_Un_unsqueezeCopies_108 (by decide) ?_
            refine e_iadd_n dd_Un_unsqueezeCopies_109 ?_
            refine e_iload dd_Un_unsqueezeCopies_110 rfl ?_
            refine e_iadd_n dd_Un_unsqueezeCopies_112 ?_
            have h4 := c_Row_appendPart (G := G) h2 h1 n1.symm n4.symm (b := p + 1) (e := p + 1 + (v + 1)) (by omega) (by omega)
            have e5 : p + 1 + (v + 1) - (p + 1) = v + 1 := by omega
            by_cases e6 : acc.length + (v + 1) ≤ cap2
            · have e7 : p + 1 ≤ p + 1 + (v + 1) ∧ p + 1 + (v + 1) ≤ im.length ∧ p + 1 + (v + 1) - (p + 1) ≤ cap2 - acc.length := by omega
              rw [if_pos e7, decide_eq_true e7, e5] at h4
              refine e_callVi (d1 := rr_Row_appendPart) (As := [.ref r, .int (nI (p + 1)), .int (nI (p + 1 + (v + 1)))]) (st := []) dd_Un_unsqueezeCopies_113 km_Un_36 hr2 rfl (by decide) rfl (Nat.le_of_ble_eq_true rfl) (Nat.le_of_ble_eq_true rfl) rfl rfl (h4) (fun w5 h5 => ?_)
              refine e_istore (lv1 := [(0, .ref r), (1, .int (nI b)), (2, .int (nI e)), (3, .ref r2), (4, .int (nI p)), (5, .int (nI v)), (6, .int (nI 0)), (7, .int (nI (v + 1))), (8, .int (bI true))]) dd_Un_unsqueezeCopies_116 (by decide) rfl ?_
              refine e_iload dd_Un_unsqueezeCopies_118 rfl ?_
              refine e_if_ne_b (tgt := 125) dd_Un_unsqueezeCopies_120 (by decide) (fun _ => ?_) (fun h9 => absurd h9 (by decide))
              refine e_iload dd_Un_unsqueezeCopies_125 rfl ?_
              refine e_iconst_n 1 dd_Un_unsqueezeCopies_127 (by decide) ?_
              refine e_iload dd_Un_unsqueezeCopies_128 rfl ?_
              refine e_iadd_n dd_Un_unsqueezeCopies_130 ?_
              refine e_iadd_n dd_Un_unsqueezeCopies_131 ?_
              refine e_istore (lv1 := [(0, .ref r), (1, .int (nI b)), (2, .int (nI e)), (3, .ref r2), (4, .int (nI (p + (1 + (v + 1))))), (5, .int (nI v)), (6, .int (nI 0)), (7, .int (nI (v + 1))), (8, .int (bI true))]) dd_Un_unsqueezeCopies_132 (by decide) rfl ?_
              refine e_goto (tgt := 3) dd_Un_unsqueezeCopies_134 (by decide) ?_
              refine e_rm (lv1 := [(0, .ref r), (1, .int (nI b)), (2, .int (nI e)), (3, .ref r2), (4, .int (nI (p + (1 + (v + 1))))), (6, .int (nI 0)), (7, .int (nI (v + 1))), (8, .int (bI true))]) 5 rfl ?_
              refine e_rm (lv1 := [(0, .ref r), (1, .int (nI b)), (2, .int (nI e)), (3, .ref r2), (4, .int (nI (p + (1 + (v + 1))))), (7, .int (nI (v + 1))), (8, .int (bI true))]) 6 rfl ?_
              refine e_rm (lv1 := [(0, .ref r), (1, .int (nI b)), (2, .int (nI e)), (3, .ref r2), (4, .int (nI (p + (1 + (v + 1))))), (8, .int (bI true))]) 7 rfl ?_
              refine e_rm (lv1 := [(0, .ref r), (1, .int (nI b)), (2, .int (nI e)), (3, .ref r2), (4, .int (nI (p + (1 + (v + 1)))))]) 8 rfl ?_
              exact ih (p + (1 + (v + 1))) _ (acc ++ (im.drop (p + 1)).take (v + 1)) (by omega) (by omega) (hS.tr h5.1) h5.2
            · have e7 : ¬ (p + 1 ≤ p + 1 + (v + 1) ∧ p + 1 + (v + 1) ≤ im.length ∧ p + 1 + (v + 1) - (p + 1) ≤ cap2 - acc.length) := by omega
              rw [if_neg e7, decide_eq_false e7] at h4
              refine e_callVi (d1 := rr_Row_appendPart) (As := [.ref r, .int (nI (p + 1)), .int (nI (p + 1 + (v + 1)))]) (st := []) dd_Un_unsqueezeCopies_113 km_Un_36 hr2 rfl (by decide) rfl (Nat.le_of_ble_eq_true rfl) (Nat.le_of_ble_eq_true rfl) rfl rfl (h4) (fun w5 h5 => ?_)
              refine e_istore (lv1 := [(0, .ref r), (1, .int (nI b)), (2, .int (nI e)), (3, .ref r2), (4, .int (nI p)), (5, .int (nI v)), (6, .int (nI 0)), (7, .int (nI (v + 1))), (8, .int (bI false))]) dd_Un_unsqueezeCopies_116 (by decide) rfl ?_
              refine e_iload dd_Un_unsqueezeCopies_118 rfl ?_
              refine e_if_ne_b (tgt := 125) dd_Un_unsqueezeCopies_120 (by decide) (fun h9 => absurd h9 (by decide)) (fun _ => ?_)
              refine e_iconst_n 0 dd_Un_unsqueezeCopies_123 (by decide) ?_
              have e8 : uOK cap2 (uC im e k (p + (1 + (v + 1))) (acc ++ (im.drop (p + 1)).take (v + 1))) = false := uOK_f (uC_mono im e k _ _) (by rw [List.length_append, List.length_take, List.length_drop]; omega)
              exact e_zret dd_Un_unsqueezeCopies_124 rfl (by decide) (pI_of (bI_f e8) ⟨hS.tr h5.1, acc, h5.2, fun h9 => absurd h9 (by rw [e8]; decide)⟩)
          · rw [if_pos (by omega)]
            refine e_iconst_n 0 dd_Un_unsqueezeCopies_69 (by decide) ?_
            exact e_zret dd_Un_unsqueezeCopies_70 rfl (by decide) (pI_of rfl ⟨hS, acc, h2, fun h9 => absurd h9 Bool.false_ne_true⟩)
        · rw [if_pos c35]
          refine e_iconst_n 1 dd_Un_unsqueezeCopies_38 (by decide) ?_
          refine e_goto (tgt := 43) dd_Un_unsqueezeCopies_39 (by decide) ?_
          refine e_istore (lv1 := [(0, .ref r), (1, .int (nI b)), (2, .int (nI e)), (3, .ref r2), (4, .int (nI p)), (5, .int (nI v)), (6, .int (nI 1))]) dd_Un_unsqueezeCopies_43 (by decide) rfl ?_
          refine e_iload dd_Un_unsqueezeCopies_45 rfl ?_
          refine e_if_eq_n (tgt := 54) dd_Un_unsqueezeCopies_47 (by decide) (by omega) (fun h9 => absurd h9 (by decide)) (fun _ => ?_)
          refine e_iconst_n 1 dd_Un_unsqueezeCopies_50 (by decide) ?_
          refine e_goto (tgt := 58) dd_Un_unsqueezeCopies_51 (by decide) ?_
          refine e_istore (lv1 := [(0, .ref r), (1, .int (nI b)), (2, .int (nI e)), (3, .ref r2), (4, .int (nI p)), (5, .int (nI v)), (6, .int (nI 1)), (7, .int (nI 1))]) dd_Un_unsqueezeCopies_58 (by decide) rfl ?_
          refine e_iload dd_Un_unsqueezeCopies_60 rfl ?_
          refine e_iload dd_Un_unsqueezeCopies_62 rfl ?_
          refine e_iadd_n dd_Un_unsqueezeCopies_64 ?_
          refine e_iload_n dd_Un_unsqueezeCopies_65 rfl ?_
          refine e_icmp_lt_n (tgt := 71) dd_Un_unsqueezeCopies_66 (by decide) (by omega) (by omega) (fun c66 => ?_) (fun c66 => ?_)
          · rw [if_neg (by omega)]
            have hv2 := getD_lt hby (j := p + 1) (by omega)
            refine e_iload dd_Un_unsqueezeCopies_71 rfl ?_
            refine e_if_eq_n (tgt := 100) dd_Un_unsqueezeCopies_73 (by decide) (by omega) (fun h9 => absurd h9 (by decide)) (fun _ => ?_)
            refine e_aload_n dd_Un_unsqueezeCopies_76 rfl ?_
            refine e_iload dd_Un_unsqueezeCopies_77 rfl ?_
            refine e_bipush_n 32 dd_Un_unsqueezeCopies_79 (by decide) ?_
            refine e_isub_n dd_Un_unsqueezeCopies_81 (by omega) ?_
            refine e_iconst_n 3 dd_Un_unsqueezeCopies_82 (by decide) ?_
            refine e_iadd_n dd_Un_unsqueezeCopies_83 ?_
            refine e_aload_n dd_Un_unsqueezeCopies_84 rfl ?_
            refine e_iload dd_Un_unsqueezeCopies_85 rfl ?_
            refine e_iconst_n 1 dd_Un_unsqueezeCopies_87 (by decide) ?_
            refine e_iadd_n dd_Un_unsqueezeCopies_88 ?_
            refine e_callVp (d1 := rr_Row_at) (As := [.int (nI (p + 1))]) (st := [.int (nI ((v - 32) + 3)), .ref r2]) dd_Un_unsqueezeCopies_89 km_Un_44 hr rfl (by decide) rfl (Nat.le_of_ble_eq_true rfl) (Nat.le_of_ble_eq_true rfl) rfl rfl (c_Row_ati h1 (by omega)) ?_
            generalize hue : im.getD (p + 1) 0 = u at hv2 ⊢
            refine e_iconst_n 1 dd_Un_unsqueezeCopies_92 (by decide) ?_
            refine e_iadd_n dd_Un_unsqueezeCopies_93 ?_
            have h4 := c_Un_copyBack (G := G) h2 (n := v - 32 + 3) (d := u) (by omega) (by omega)
            by_cases e6 : ¬ (32 < u + 1 ∨ acc.length < u + 1) ∧ acc.length + (v - 32 + 3) ≤ cap2
            · rw [decide_eq_true e6] at h4
              refine e_callSi (d1 := rr_Un_copyBack) (As := [.ref r2, .int (nI ((v - 32) + 3)), .int (nI (u + 1))]) (st := []) dd_Un_unsqueezeCopies_94 km_Un_56 (by decide) rfl (Nat.le_of_ble_eq_true rfl) (Nat.le_of_ble_eq_true rfl) rfl rfl (h4) (fun w5 h5 => ?_)
              obtain ⟨h51, zs, h52, h53⟩ := h5
              have e7 := h53 e6
              subst e7
              rw [if_neg e6.1]
              refine e_goto (tgt := 116) dd_Un_unsqueezeCopies_97 (by decide) ?_
              refine e_istore (lv1 := [(0, .ref r), (1, .int (nI b)), (2, .int (nI e)), (3, .ref r2), (4, .int (nI p)), (5, .int (nI v)), (6, .int (nI 1)), (7, .int (nI 1)), (8, .int (bI true))]) dd_Un_unsqueezeCopies_116 (by decide) rfl ?_
              refine e_iload dd_Un_unsqueezeCopies_118 rfl ?_
              refine e_if_ne_b (tgt := 125) dd_Un_unsqueezeCopies_120 (by decide) (fun _ => ?_) (fun h9 => absurd h9 (by decide))
              refine e_iload dd_Un_unsqueezeCopies_125 rfl ?_
              refine e_iconst_n 1 dd_Un_unsqueezeCopies_127 (by decide) ?_
              refine e_iload dd_Un_unsqueezeCopies_128 rfl ?_
              refine e_iadd_n dd_Un_unsqueezeCopies_130 ?_
              refine e_iadd_n dd_Un_unsqueezeCopies_131 ?_
              refine e_istore (lv1 := [(0, .ref r), (1, .int (nI b)), (2, .int (nI e)), (3, .ref r2), (4, .int (nI (p + (1 + 1)))), (5, .int (nI v)), (6, .int (nI 1)), (7, .int (nI 1)), (8, .int (bI true))]) dd_Un_unsqueezeCopies_132 (by decide) rfl ?_
              refine e_goto (tgt := 3) dd_Un_unsqueezeCopies_134 (by decide) ?_
              refine e_rm (lv1 := [(0, .ref r), (1, .int (nI b)), (2, .int (nI e)), (3, .ref r2), (4, .int (nI (p + (1 + 1)))), (6, .int (nI 1)), (7, .int (nI 1)), (8, .int (bI true))]) 5 rfl ?_
              refine e_rm (lv1 := [(0, .ref r), (1, .int (nI b)), (2, .int (nI e)), (3, .ref r2), (4, .int (nI (p + (1 + 1)))), (7, .int (nI 1)), (8, .int (bI true))]) 6 rfl ?_
              refine e_rm (lv1 := [(0, .ref r), (1, .int (nI b)), (2, .int (nI e)), (3, .ref r2), (4, .int (nI (p + (1 + 1)))), (8, .int (bI true))]) 7 rfl ?_
              refine e_rm (lv1 := [(0, .ref r), (1, .int (nI b)), (2, .int (nI e)), (3, .ref r2), (4, .int (nI (p + (1 + 1))))]) 8 rfl ?_
              exact ih (p + 2) _ (cpB u (v - 32 + 3) acc) (by omega) (by omega) (hS.tr h51) h52
            · rw [decide_eq_false e6] at h4
              refine e_callSi (d1 := rr_Un_copyBack) (As := [.ref r2, .int (nI ((v - 32) + 3)), .int (nI (u + 1))]) (st := []) dd_Un_unsqueezeCopies_94 km_Un_56 (by decide) rfl (Nat.le_of_ble_eq_true rfl) (Nat.le_of_ble_eq_true rfl) rfl rfl (h4) (fun w5 h5 => ?_)
              obtain ⟨h51, zs, h52, h53⟩ := h5
              refine e_goto (tgt := 116) dd_Un_unsqueezeCopies_97 (by decide) ?_
              refine e_istore (lv1 := [(0, .ref r), (1, .int (nI b)), (2, .int (nI e)), (3, .ref r2), (4, .int (nI p)), (5, .int (nI v)), (6, .int (nI 1)), (7, .int (nI 1)), (8, .int (bI false))]) dd_Un_unsqueezeCopies_116 (by decide) rfl ?_
              refine e_iload dd_Un_unsqueezeCopies_118 rfl ?_
              refine e_if_ne_b (tgt := 125) dd_Un_unsqueezeCopies_120 (by decide) (fun h9 => absurd h9 (by decide)) (fun _ => ?_)
              refine e_iconst_n 0 dd_Un_unsqueezeCopies_123 (by decide) ?_
              by_cases e9 : 32 < u + 1 ∨ acc.length < u + 1
              · rw [if_pos e9]
                exact e_zret dd_Un_unsqueezeCopies_124 rfl (by decide) (pI_of rfl ⟨hS.tr h51, zs, h52, fun h9 => absurd h9 Bool.false_ne_true⟩)
              · rw [if_neg e9]
                have e8 : uOK cap2 (uC im e k (p + 2) (cpB u (v - 32 + 3) acc)) = false := uOK_f (uC_mono im e k _ _) (by rw [cpB_len]; omega)
                exact e_zret dd_Un_unsqueezeCopies_124 rfl (by decide) (pI_of (bI_f e8) ⟨hS.tr h51, zs, h52, fun h9 => absurd h9 (by rw [e8]; decide)⟩)
          · rw [if_pos (by omega)]
            refine e_iconst_n 0 dd_Un_unsqueezeCopies_69 (by decide) ?_
            exact e_zret dd_Un_unsqueezeCopies_70 rfl (by decide) (pI_of rfl ⟨hS, acc, h2, fun h9 => absurd h9 Bool.false_ne_true⟩)
      · rw [if_pos c26]
        refine e_iconst_n 0 dd_Un_unsqueezeCopies_29 (by decide) ?_
        exact e_zret dd_Un_unsqueezeCopies_30 rfl (by decide) (pI_of rfl ⟨hS, acc, h2, fun h9 => absurd h9 Bool.false_ne_true⟩)
set_option maxRecDepth 100000 in
set_option maxHeartbeats 4000000 in
theorem c_Un_unsqueezeCopies (h : cR w r a cap im) (h2 : cR w r2 a2 cap2 []) (n1 : r ≠ r2) (n4 : a ≠ a2) {b e : Nat} (he : e ≤ im.length) (hb : b ≤ 100000) : ab_E G mm_Un_unsqueezeCopies rr_Un_unsqueezeCopies 0 [(0, .ref r), (1, .int (nI b)), (2, .int (nI e)), (3, .ref r2)] [] w (pI (bI (uOK cap2 (uC im e (e - b) b []))) (uQ w r2 a2 cap2 (uC im e (e - b) b []))) := by
  have n2 := h.ne_oa h2
  have n3 := (h2.ne_oa h).symm
  refine e_iload_n dd_Un_unsqueezeCopies_0 rfl ?_
  refine e_istore (lv1 := [(0, .ref r), (1, .int (nI b)), (2, .int (nI e)), (3, .ref r2), (4, .int (nI b))]) dd_Un_unsqueezeCopies_1 (by decide) rfl ?_
  exact l_Un_copies h n1 n2 n3 n4 he (e - b) b w [] (by omega) (by omega) rS.rf h2
/-- is a file's row sound: what its bytes stand for has the length that is told -/
def uEq (o : Option (List Nat)) (n : Nat) : Bool := match o with
  | some ys => decide (ys.length = n)
  | none => false
theorem uEq_of {o : Option (List Nat)} {n cap : Nat} {zs : List Nat} (hn : n ≤ cap) (hz : uOK cap o = true → o = some zs) : uEq o n = true ↔ uOK cap o = true ∧ zs.length = n := by
  cases o with
  | none => simp [uEq, uOK]
  | some ys =>
    constructor
    · intro h
      have h1 : ys.length = n := by simpa [uEq] using h
      have h2 : uOK cap (some ys) = true := uOK_t (by omega)
      have h3 := Option.some.inj (hz h2)
      exact ⟨h2, by rw [← h3]; exact h1⟩
    · rintro ⟨h1, h2⟩
      have h3 := Option.some.inj (hz h1)
      simp [uEq, h3, h2]
set_option maxRecDepth 100000 in
set_option maxHeartbeats 4000000 in
theorem c_Un_unsqueeze {f an m at_ sl n ck : Nat} {ys : List Nat} (h : cR w r a cap im) (h2 : cR w r2 a2 60 ys) (n1 : r ≠ r2) (n4 : a ≠ a2) (hf : w.1 f = some (.inr (5, [.ref an, .int (nI m), .int (nI at_), .int (nI sl), .int (nI n), .int (nI ck)]))) (hm : m ≤ 2) (he : at_ + sl ≤ im.length) (hn : n ≤ 60) : ab_E G mm_Un_unsqueeze rr_Un_unsqueeze 0 [(0, .ref r), (1, .ref f), (2, .ref r2)] [] w (pI (bI (uEq (unsq m im at_ (at_ + sl)) n)) fun w2 => rS w w2 r2 a2 ∧ ∃ zs, cR w2 r2 a2 60 zs ∧ (uEq (unsq m im at_ (at_ + sl)) n = true → unsq m im at_ (at_ + sl) = some zs)) := by
  have n2 := h.ne_oa h2
  have n3 := (h2.ne_oa h).symm
  have hr2 := h2.obj
  have hlt := h.lt
  have f1 : f ≠ r2 := by
    intro e
    rw [e, hr2] at hf
    cases hf
  have f2 : f ≠ a2 := by
    intro e
    obtain ⟨-, -, -, -, -, g, h3, -⟩ := h2
    rw [e, h3] at hf
    cases hf
  refine e_aload_n dd_Un_unsqueeze_0 rfl ?_
  refine e_get dd_Un_unsqueeze_1 kf_Un_9 hf rfl ?_
  refine e_istore_n (lv1 := [(0, .ref r), (1, .ref f), (2, .ref r2), (3, .int (nI at_))]) dd_Un_unsqueeze_4 (by decide) rfl ?_
  refine e_iload_n dd_Un_unsqueeze_5 rfl ?_
  refine e_aload_n dd_Un_unsqueeze_6 rfl ?_
  refine e_get dd_Un_unsqueeze_7 kf_Un_15 hf rfl ?_
  refine e_iadd_n dd_Un_unsqueeze_10 ?_
  refine e_istore (lv1 := [(0, .ref r), (1, .ref f), (2, .ref r2), (3, .int (nI at_)), (4, .int (nI (at_ + sl)))]) dd_Un_unsqueeze_11 (by decide) rfl ?_
  refine e_aload_n dd_Un_unsqueeze_13 rfl ?_
  refine e_iconst_n 0 dd_Un_unsqueeze_14 (by decide) ?_
  refine e_callVv (d1 := rr_Row_cutTo) (As := [.int (nI 0)]) (st := []) dd_Un_unsqueeze_15 km_Un_18 hr2 rfl (by decide) rfl (Nat.le_of_ble_eq_true rfl) (Nat.le_of_ble_eq_true rfl) rfl rfl (c_Row_cutTo h2 (k := 0) (by decide)) (fun w1 h3 => ?_)
  have h4 := h3.2
  rw [List.take_zero] at h4
  have hr2 := h4.obj
  have h1 := h.fr h3.1 n1 n2 n3 n4
  have hf1 := (h3.1.2 f f1 f2).trans hf
  generalize hoe : unsq m im at_ (at_ + sl) = o
  have fin : ∀ w3 lv, rS w1 w3 r2 a2 → (∃ zs, cR w3 r2 a2 60 zs ∧ (uOK 60 o = true → o = some zs)) → ab_at lv 1 = some (.ref f) → ab_at lv 2 = some (.ref r2) → ab_at lv 5 = some (.int (bI (uOK 60 o))) → ab_E G mm_Un_unsqueeze rr_Un_unsqueeze 70 lv [] w3 (pI (bI (uEq o n)) fun w2 => rS w w2 r2 a2 ∧ ∃ zs, cR w2 r2 a2 60 zs ∧ (uEq o n = true → o = some zs)) := by
    intro w3 lv hS3 hz l1 l2 l5
    obtain ⟨zs, z1, z2⟩ := hz
    have hr2 := z1.obj
    have hzl := z1.lt
    have hf3 := (hS3.2 f f1 f2).trans hf1
    have hq := uEq_of hn z2
    refine e_iload dd_Un_unsqueeze_70 l5 ?_
    refine e_if_eq_b (tgt := 90) dd_Un_unsqueeze_72 (by decide) (fun c72 => ?_) (fun c72 => ?_)
    · refine e_iconst_n 0 dd_Un_unsqueeze_90 (by decide) ?_
      exact e_zret dd_Un_unsqueeze_91 rfl (by decide) (pI_of (bI_f (by rw [Bool.eq_false_iff]; intro h9; rw [(hq.mp h9).1] at c72; cases c72)) ⟨h3.1.tr hS3, zs, z1, fun h9 => z2 (hq.mp h9).1⟩)
    · refine e_aload_n dd_Un_unsqueeze_75 l2 ?_
      refine e_get dd_Un_unsqueeze_76 kf_Un_40 hr2 rfl ?_
      refine e_aload_n dd_Un_unsqueeze_79 l1 ?_
      refine e_get dd_Un_unsqueeze_80 kf_Un_43 hf3 rfl ?_
      refine e_icmp_ne_n (tgt := 90) dd_Un_unsqueeze_83 (by decide) (by omega) (by omega) (fun c83 => ?_) (fun c83 => ?_)
      · refine e_iconst_n 0 dd_Un_unsqueeze_90 (by decide) ?_
        exact e_zret dd_Un_unsqueeze_91 rfl (by decide) (pI_of (bI_f (by rw [Bool.eq_false_iff]; intro h9; exact c83 (hq.mp h9).2)) ⟨h3.1.tr hS3, zs, z1, fun h9 => z2 (hq.mp h9).1⟩)
      · refine e_iconst_n 1 dd_Un_unsqueeze_86 (by decide) ?_
        refine e_goto (tgt := 91) dd_Un_unsqueeze_87 (by decide) ?_
        exact e_zret dd_Un_unsqueeze_91 rfl (by decide) (pI_of (bI_t (hq.mpr ⟨c72, c83⟩)) ⟨h3.1.tr hS3, zs, z1, fun h9 => z2 c72⟩)
  refine e_aload_n dd_Un_unsqueeze_18 rfl ?_
  refine e_get dd_Un_unsqueeze_19 kf_Un_24 hf1 rfl ?_
  refine e_iconst_n 1 dd_Un_unsqueeze_22 (by decide) ?_
  refine e_icmp_ne_n (tgt := 39) dd_Un_unsqueeze_23 (by decide) (by omega) (by omega) (fun c23 => ?_) (fun c23 => ?_)
  · refine e_aload_n dd_Un_unsqueeze_39 rfl ?_
    refine e_get dd_Un_unsqueeze_40 kf_Un_24 hf1 rfl ?_
    refine e_iconst_n 2 dd_Un_unsqueeze_43 (by decide) ?_
    refine e_icmp_ne_n (tgt := 60) dd_Un_unsqueeze_44 (by decide) (by omega) (by omega) (fun c44 => ?_) (fun c44 => ?_)
    · rw [unsq, if_neg c23, if_neg c44] at hoe
      have h5 := c_Row_appendPart (G := G) h4 h1 n1.symm n4.symm (b := at_) (e := at_ + sl) (by omega) (by omega)
      have e5 : at_ + sl - at_ = sl := by omega
      rw [e5] at hoe h5
      have e6 : ((im.drop at_).take sl).length = sl := by rw [List.length_take, List.length_drop]; omega
      have e7 : decide (at_ ≤ at_ + sl ∧ at_ + sl ≤ im.length ∧ sl ≤ 60 - ([] : List Nat).length) = uOK 60 o := by
        rw [← hoe, uOK, e6]
        apply decide_eq_decide.mpr
        simp
        omega
      rw [e7] at h5
      refine e_aload_n dd_Un_unsqueeze_60 rfl ?_
      refine e_aload_n dd_Un_unsqueeze_61 rfl ?_
      refine e_iload_n dd_Un_unsqueeze_62 rfl ?_
      refine e_iload dd_Un_unsqueeze_63 rfl ?_
      refine e_callVi (d1 := rr_Row_appendPart) (As := [.ref r, .int (nI at_), .int (nI (at_ + sl))]) (st := []) dd_Un_unsqueeze_65 km_Un_36 hr2 rfl (by decide) rfl (Nat.le_of_ble_eq_true rfl) (Nat.le_of_ble_eq_true rfl) rfl rfl (h5) (fun w5 h6 => ?_)
      refine e_istore (lv1 := [(0, .ref r), (1, .ref f), (2, .ref r2), (3, .int (nI at_)), (4, .int (nI (at_ + sl))), (5, .int (bI (uOK 60 o)))]) dd_Un_unsqueeze_68 (by decide) rfl ?_
      refine fin w5 _ h6.1 ⟨_, h6.2, fun h9 => ?_⟩ rfl rfl rfl
      rw [h9] at e7
      rw [if_pos (of_decide_eq_true e7), List.nil_append]
      exact hoe.symm
    · rw [unsq, if_neg c23, if_pos c44] at hoe
      have h5 := c_Un_unsqueezeCopies (G := G) h1 h4 n1 n4 (b := at_) (e := at_ + sl) he (by omega)
      rw [hoe] at h5
      refine e_aload_n dd_Un_unsqueeze_47 rfl ?_
      refine e_iload_n dd_Un_unsqueeze_48 rfl ?_
      refine e_iload dd_Un_unsqueeze_49 rfl ?_
      refine e_aload_n dd_Un_unsqueeze_51 rfl ?_
      refine e_callSi (d1 := rr_Un_unsqueezeCopies) (As := [.ref r, .int (nI at_), .int (nI (at_ + sl)), .ref r2]) (st := []) dd_Un_unsqueeze_52 km_Un_33 (by decide) rfl (Nat.le_of_ble_eq_true rfl) (Nat.le_of_ble_eq_true rfl) rfl rfl (h5) (fun w5 h6 => ?_)
      refine e_istore (lv1 := [(0, .ref r), (1, .ref f), (2, .ref r2), (3, .int (nI at_)), (4, .int (nI (at_ + sl))), (5, .int (bI (uOK 60 o)))]) dd_Un_unsqueeze_55 (by decide) rfl ?_
      refine e_goto (tgt := 70) dd_Un_unsqueeze_57 (by decide) ?_
      exact fin w5 _ h6.1 h6.2 rfl rfl rfl
  · rw [unsq, if_pos c23] at hoe
    have h5 := c_Un_unsqueezeRuns (G := G) h1 h4 n1 n4 (b := at_) (e := at_ + sl) he (by omega)
    rw [hoe] at h5
    refine e_aload_n dd_Un_unsqueeze_26 rfl ?_
    refine e_iload_n dd_Un_unsqueeze_27 rfl ?_
    refine e_iload dd_Un_unsqueeze_28 rfl ?_
    refine e_aload_n dd_Un_unsqueeze_30 rfl ?_
    refine e_callSi (d1 := rr_Un_unsqueezeRuns) (As := [.ref r, .int (nI at_), .int (nI (at_ + sl)), .ref r2]) (st := []) dd_Un_unsqueeze_31 km_Un_27 (by decide) rfl (Nat.le_of_ble_eq_true rfl) (Nat.le_of_ble_eq_true rfl) rfl rfl (h5) (fun w5 h6 => ?_)
    refine e_istore (lv1 := [(0, .ref r), (1, .ref f), (2, .ref r2), (3, .int (nI at_)), (4, .int (nI (at_ + sl))), (5, .int (bI (uOK 60 o)))]) dd_Un_unsqueeze_34 (by decide) rfl ?_
    refine e_goto (tgt := 70) dd_Un_unsqueeze_36 (by decide) ?_
    exact fin w5 _ h6.1 h6.2 rfl rfl rfl
end UN
