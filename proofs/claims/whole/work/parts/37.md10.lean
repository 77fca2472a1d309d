/-! The reference: opening an index; open. -/
theorem neg2 : (-2 : Int32) < 0 := by decide
theorem chF_F {im : List Nat} {li : Nat} {e : Int32 × Nat} : ∀ k c acc, chF im li k c acc = .inl e → e.1 < 0
  | 0, c, acc, h => by
    rw [chF] at h
    cases h
    exact neg2
  | k + 1, c, acc, h => by
    rw [chF] at h
    split at h
    · split at h
      · cases h
      · split at h
        · cases h
          exact neg4
        · rcases h1 : rRH im li c with e1 | q
          · rw [h1] at h
            cases h
            exact rRH_F h1
          · rw [h1] at h
            dsimp only at h
            split at h
            · cases h
              exact neg2
            · rcases h2 : pS im li (c + 8 + q.1.length) q.2.2.1 with e2 | x
              · rw [h2] at h
                cases h
                exact pS_F h2
              · rw [h2] at h
                exact chF_F k _ _ h
    · cases h
      exact neg3
theorem ixF_F {im : List Nat} {li d : Nat} {e : Int32 × Nat} : ∀ k c acc, ixF im li d k c acc = .inl e → e.1 < 0
  | 0, c, acc, h => by
    rw [ixF] at h
    split at h
    · cases h
      exact neg4
    · cases h
  | k + 1, c, acc, h => by
    rw [ixF] at h
    rcases h1 : rEn im li d c with e1 | q
    · rw [h1] at h
      cases h
      exact rEn_F h1
    · rw [h1] at h
      exact ixF_F k _ _ h
theorem opX_F {im : List Nat} {e : Int32 × Nat} (h : opX im = .inl e) : e.1 < 0 := by
  rw [opX] at h
  split at h
  · cases h
    exact neg3
  · rcases h1 : tTl im (im.length - 6) with e1 | q
    · rw [h1] at h
      cases h
      exact tTl_F h1
    · rw [h1] at h
      exact ixF_F _ _ _ h
theorem rEn_nm {im : List Nat} {li d c : Nat} {q : FO} (h : rEn im li d c = .inr q) : q.1.length = im.getD (c + 1) 0 ∧ c + 2 ≤ li := by
  rcases hN : rMN im li c with e | p
  · rw [rEn, hN] at h
    cases h
  · obtain ⟨m1, m2, m3, m4, m5, m6, m7⟩ := rMN_S hN
    rw [rEn_2 hN rfl] at h
    split at h
    · cases h
    · split at h
      · cases h
      · split at h
        · cases h
        · cases h
          exact ⟨m7, by omega⟩
section MD
variable {G : ab_G} {w : ab_W} {nl dl fl ln md op pl tk rq : Int32} {xs ds im : List Nat} {i o li : Nat} {g : Nat → Int32} {S : CS}
set_option maxRecDepth 100000 in
set_option maxHeartbeats 4000000 in
theorem c_Md_openEntry {c d : Nat} {acc : List FO} (h : mO w nl dl fl (nI im.length) md (nI acc.length) (-1) tk rq) (hI : mA w 77 600 im) (hP : mP w acc im.length) (h6 : acc.length < 6) (hli : li ≤ im.length) (hc : c ≤ 700) (hd : d ≤ im.length) : ab_E G mm_Md_openEntry rr_Md_openEntry 0 [(0, .ref 69), (1, .int (nI c)), (2, .int (nI d)), (3, .int (nI li))] [] w (rdP (rEn im li d c) (fun _ => 0) (oF w nl dl fl (nI im.length) md tk rq) (fun q => (oS w nl dl fl (nI im.length) md tk rq im.length) (acc ++ [q]))) := by
  have h69 : w.1 69 = _ := h
  obtain ⟨hil, hb, f77, h77, hf77⟩ := id hI
  obtain ⟨-, hok, g, h79, hop⟩ := id hP
  have hS : rS w w 69 79 := rS.rf
  have k0 := c_Md_head (G := G) (p := c) h hI h79 (by omega) hli (by omega)
  refine e_aload_n dd_Md_openEntry_0 rfl ?_
  refine e_iload_n dd_Md_openEntry_1 rfl ?_
  refine e_iload_n dd_Md_openEntry_2 rfl ?_
  rcases hN : rMN im li c with e | q
  · rw [rdP_F hN] at k0
    have hlt := rMN_F hN
    have eR : rEn im li d c = .inl e := by rw [rEn, hN]
    rw [eR]
    refine e_callVi (d1 := rr_Md_head) (As := [.int (nI c), .int (nI li)]) (st := []) dd_Md_openEntry_3 km_Md_133 h69 rfl (by decide) rfl (Nat.le_of_ble_eq_true rfl) (Nat.le_of_ble_eq_true rfl) rfl rfl (k0) (fun v1 k1 => ?_)
    refine e_istore (lv1 := [(0, .ref 69), (1, .int (nI c)), (2, .int (nI d)), (3, .int (nI li)), (4, .int e.1)]) dd_Md_openEntry_6 (by decide) rfl ?_
    refine e_iload dd_Md_openEntry_8 rfl ?_
    refine e_if_eq (tgt := 16) dd_Md_openEntry_10 (by decide) (fun h9 => absurd h9 (neg_ne hlt)) (fun _ => ?_)
    refine e_iload dd_Md_openEntry_13 rfl ?_
    exact e_iret dd_Md_openEntry_15 rfl (⟨rfl, k1.1, ⟨_, k1.2.1⟩, k1.2.2⟩)
  · rw [rdP_S hN] at k0
    obtain ⟨m1, m2, m3, m4, m5, m6, m7⟩ := rMN_S hN
    have eR := rEn_2 (d := d) hN (Q := c + 2 + q.2.length) rfl
    have hfo0 := fun q1 => rEn_S (q := q1) (c := c) hb hli hd
    refine e_callVi (d1 := rr_Md_head) (As := [.int (nI c), .int (nI li)]) (st := []) dd_Md_openEntry_3 km_Md_133 h69 rfl (by decide) rfl (Nat.le_of_ble_eq_true rfl) (Nat.le_of_ble_eq_true rfl) rfl rfl (k0) (fun v1 k1 => ?_)
    obtain ⟨k1s, g1, k1g, k1G⟩ := k1
    have hI2 := hI.keep (k1s.2 77 (by decide) (by decide))
    have h2 : mO v1 _ _ _ _ _ _ _ _ _ := h.w79 k1s
    have h69b : v1.1 69 = _ := h2
    have hS2 := k1s.w79
    have h77 := (k1s.2 77 (by decide) (by decide)).trans h77
    have hK : f77 (c + 1) = nI q.2.length := by rw [hf77 _ (by omega), m7]
    generalize hQ : c + 2 + q.2.length = Q at eR
    refine e_istore (lv1 := [(0, .ref 69), (1, .int (nI c)), (2, .int (nI d)), (3, .int (nI li)), (4, .int (nI 0))]) dd_Md_openEntry_6 (by decide) rfl ?_
    refine e_iload dd_Md_openEntry_8 rfl ?_
    refine e_if_eq_n (tgt := 16) dd_Md_openEntry_10 (by decide) (by omega) (fun _ => ?_) (fun h9 => absurd h9 (by decide))
    refine e_iload_n dd_Md_openEntry_16 rfl ?_
    refine e_iconst_n 2 dd_Md_openEntry_17 (by decide) ?_
    refine e_iadd_n dd_Md_openEntry_18 ?_
    refine e_aload_n dd_Md_openEntry_19 rfl ?_
    refine e_get dd_Md_openEntry_20 kf_Md_31 h69b rfl ?_
    refine e_iload_n dd_Md_openEntry_23 rfl ?_
    refine e_iconst_n 1 dd_Md_openEntry_24 (by decide) ?_
    refine e_iadd_n dd_Md_openEntry_25 ?_
    refine e_iald dd_Md_openEntry_26 h77 rfl rfl (by omega) (by decide) ?_
    refine e_top (y := nI q.2.length) hK ?_
    refine e_iadd_n dd_Md_openEntry_27 ?_
    refine e_top (y := nI Q) (by rw [hQ]) ?_
    refine e_istore (lv1 := [(0, .ref 69), (1, .int (nI c)), (2, .int (nI d)), (3, .int (nI li)), (4, .int (nI 0)), (5, .int (nI Q))]) dd_Md_openEntry_28 (by decide) rfl ?_
    refine e_iload dd_Md_openEntry_30 rfl ?_
    refine e_iconst_n 2 dd_Md_openEntry_32 (by decide) ?_
    refine e_iadd_n dd_Md_openEntry_33 ?_
    refine e_iload_n dd_Md_openEntry_34 rfl ?_
    refine e_icmp_ge_n (tgt := 77) dd_Md_openEntry_35 (by decide) (by omega) (by omega) (fun c35 => ?_) (fun c35 => ?_)
    · rw [if_neg (fun h9 => absurd h9.1 (by omega))] at eR
      refine e_iload dd_Md_openEntry_77 rfl ?_
      refine e_iconst_n 3 dd_Md_openEntry_79 (by decide) ?_
      refine e_iadd_n dd_Md_openEntry_80 ?_
      refine e_iload_n dd_Md_openEntry_81 rfl ?_
      refine e_icmp_ge_n (tgt := 110) dd_Md_openEntry_82 (by decide) (by omega) (by omega) (fun c82 => ?_) (fun c82 => ?_)
      · rw [if_neg (fun h9 => absurd h9.1 (by omega)), if_pos (by omega)] at eR
        rw [eR]
        refine e_iload dd_Md_openEntry_110 rfl ?_
        refine e_iconst_n 5 dd_Md_openEntry_112 (by decide) ?_
        refine e_iadd_n dd_Md_openEntry_113 ?_
        refine e_iload_n dd_Md_openEntry_114 rfl ?_
        refine e_icmp_lt_n (tgt := 126) dd_Md_openEntry_115 (by decide) (by omega) (by omega) (fun h9 => absurd h9 (by omega)) (fun _ => ?_)
        refine e_aload_n dd_Md_openEntry_118 rfl ?_
        refine e_bipush (v := -3) dd_Md_openEntry_119 (by decide) ?_
        refine e_iload_n dd_Md_openEntry_121 rfl ?_
        refine e_callVi (d1 := rr_Md_stop) (As := [.int (-3), .int (nI li)]) (st := []) dd_Md_openEntry_122 km_Md_130 h69b rfl (by decide) rfl (Nat.le_of_ble_eq_true rfl) (Nat.le_of_ble_eq_true rfl) rfl rfl (c_Md_stop h2 (-3) (nI li)) (fun v2 k1 => ?_)
        exact e_iret dd_Md_openEntry_125 rfl (rdF_of ⟨⟨k1.1.1.trans hS2.1, fun j a b => (k1.1.2 j a a).trans (hS2.2 j a b)⟩, ⟨_, k1.2⟩, g1, (k1.1.2 79 (by decide) (by decide)).trans k1g⟩)
      · have hx3 := hf77 (Q + 3) (by omega)
        have hb3 := getD_lt hb (j := Q + 3) (by omega)
        refine e_aload_n dd_Md_openEntry_85 rfl ?_
        refine e_get dd_Md_openEntry_86 kf_Md_31 h69b rfl ?_
        refine e_iload dd_Md_openEntry_89 rfl ?_
        refine e_iconst_n 3 dd_Md_openEntry_91 (by decide) ?_
        refine e_iadd_n dd_Md_openEntry_92 ?_
        refine e_iald dd_Md_openEntry_93 h77 rfl rfl (by omega) (by decide) ?_
        refine e_top (y := nI (im.getD (Q + 3) 0)) hx3 ?_
        refine e_bipush_n 60 dd_Md_openEntry_94 (by decide) ?_
        refine e_icmp_le_n (tgt := 110) dd_Md_openEntry_96 (by decide) (by omega) (by omega) (fun c96 => ?_) (fun c96 => ?_)
        · rw [if_neg (fun h9 => absurd h9.2 (by omega))] at eR
          refine e_iload dd_Md_openEntry_110 rfl ?_
          refine e_iconst_n 5 dd_Md_openEntry_112 (by decide) ?_
          refine e_iadd_n dd_Md_openEntry_113 ?_
          refine e_iload_n dd_Md_openEntry_114 rfl ?_
          refine e_icmp_lt_n (tgt := 126) dd_Md_openEntry_115 (by decide) (by omega) (by omega) (fun c115 => ?_) (fun c115 => ?_)
          · rw [if_neg (by omega)] at eR
            have hx2 := hf77 (Q + 2) (by omega)
            have hfo := (hfo0 _ eR).1
            rw [eR]
            refine e_aload_n dd_Md_openEntry_126 rfl ?_
            refine e_aload_n dd_Md_openEntry_127 rfl ?_
            refine e_iload dd_Md_openEntry_128 rfl ?_
            refine e_callVp (d1 := rr_Md_two) (As := [.int (nI Q)]) (st := [.ref 69]) dd_Md_openEntry_130 km_Md_136 h69b rfl (by decide) rfl (Nat.le_of_ble_eq_true rfl) (Nat.le_of_ble_eq_true rfl) rfl rfl (c_Md_two h2 hI2 (by omega)) ?_
            refine e_aload_n dd_Md_openEntry_133 rfl ?_
            refine e_get dd_Md_openEntry_134 kf_Md_31 h69b rfl ?_
            refine e_iload dd_Md_openEntry_137 rfl ?_
            refine e_iconst_n 2 dd_Md_openEntry_139 (by decide) ?_
            refine e_iadd_n dd_Md_openEntry_140 ?_
            refine e_iald dd_Md_openEntry_141 h77 rfl rfl (by omega) (by decide) ?_
            refine e_top (y := nI (im.getD (Q + 2) 0)) hx2 ?_
            refine e_aload_n dd_Md_openEntry_142 rfl ?_
            refine e_get dd_Md_openEntry_143 kf_Md_31 h69b rfl ?_
            refine e_iload dd_Md_openEntry_146 rfl ?_
            refine e_iconst_n 3 dd_Md_openEntry_148 (by decide) ?_
            refine e_iadd_n dd_Md_openEntry_149 ?_
            refine e_iald dd_Md_openEntry_150 h77 rfl rfl (by omega) (by decide) ?_
            refine e_top (y := nI (im.getD (Q + 3) 0)) hx3 ?_
            refine e_aload_n dd_Md_openEntry_151 rfl ?_
            refine e_iload dd_Md_openEntry_152 rfl ?_
            refine e_iconst_n 4 dd_Md_openEntry_154 (by decide) ?_
            refine e_iadd_n dd_Md_openEntry_155 ?_
            refine e_callVp (d1 := rr_Md_two) (As := [.int (nI (Q + 4))]) (st := [.int (nI (im.getD (Q + 3) 0)), .int (nI (im.getD (Q + 2) 0)), .int (nI (nm2 im Q)), .ref 69]) dd_Md_openEntry_156 km_Md_136 h69b rfl (by decide) rfl (Nat.le_of_ble_eq_true rfl) (Nat.le_of_ble_eq_true rfl) rfl rfl (c_Md_two h2 hI2 (by omega)) ?_
            refine e_callVv (d1 := rr_Md_note) (As := [.int (nI (nm2 im Q)), .int (nI (im.getD (Q + 2) 0)), .int (nI (im.getD (Q + 3) 0)), .int (nI (nm2 im (Q + 4)))]) (st := []) dd_Md_openEntry_159 km_Md_139 h69b rfl (by decide) rfl (Nat.le_of_ble_eq_true rfl) (Nat.le_of_ble_eq_true rfl) rfl rfl (c_Md_note h2 k1g h6 _ _ _ _) (fun v2 k2 => ?_)
            refine e_iconst_n 0 dd_Md_openEntry_162 (by decide) ?_
            obtain ⟨k2s, k2o, g2, k2g, n1, n2, n3, n4, n5⟩ := k2
            exact e_iret dd_Md_openEntry_163 rfl (rdS_of (v := fun _ => 0) ⟨hS2.tr k2s, by rw [List.length_append]; exact k2o, by simp; omega, fun q1 hq1 => (List.mem_append.mp hq1).elim (fun h1 => hok q1 h1) (fun h1 => by rw [List.mem_singleton.mp h1]; exact hfo), g2, k2g, acc_snocP hop hok h6 k1G n1 n2 n3 n4 n5⟩)
          · rw [if_pos (by omega)] at eR
            rw [eR]
            refine e_aload_n dd_Md_openEntry_118 rfl ?_
            refine e_bipush (v := -3) dd_Md_openEntry_119 (by decide) ?_
            refine e_iload_n dd_Md_openEntry_121 rfl ?_
            refine e_callVi (d1 := rr_Md_stop) (As := [.int (-3), .int (nI li)]) (st := []) dd_Md_openEntry_122 km_Md_130 h69b rfl (by decide) rfl (Nat.le_of_ble_eq_true rfl) (Nat.le_of_ble_eq_true rfl) rfl rfl (c_Md_stop h2 (-3) (nI li)) (fun v2 k1 => ?_)
            exact e_iret dd_Md_openEntry_125 rfl (rdF_of ⟨⟨k1.1.1.trans hS2.1, fun j a b => (k1.1.2 j a a).trans (hS2.2 j a b)⟩, ⟨_, k1.2⟩, g1, (k1.1.2 79 (by decide) (by decide)).trans k1g⟩)
        · rw [if_pos ⟨c82, c96⟩] at eR
          rw [eR]
          refine e_aload_n dd_Md_openEntry_99 rfl ?_
          refine e_bipush (v := -4) dd_Md_openEntry_100 (by decide) ?_
          refine e_iload dd_Md_openEntry_102 rfl ?_
          refine e_iconst_n 3 dd_Md_openEntry_104 (by decide) ?_
          refine e_iadd_n dd_Md_openEntry_105 ?_
          refine e_callVi (d1 := rr_Md_stop) (As := [.int (-4), .int (nI (Q + 3))]) (st := []) dd_Md_openEntry_106 km_Md_130 h69b rfl (by decide) rfl (Nat.le_of_ble_eq_true rfl) (Nat.le_of_ble_eq_true rfl) rfl rfl (c_Md_stop h2 (-4) (nI (Q + 3))) (fun v2 k1 => ?_)
          exact e_iret dd_Md_openEntry_109 rfl (rdF_of ⟨⟨k1.1.1.trans hS2.1, fun j a b => (k1.1.2 j a a).trans (hS2.2 j a b)⟩, ⟨_, k1.2⟩, g1, (k1.1.2 79 (by decide) (by decide)).trans k1g⟩)
    · have hx2 := hf77 (Q + 2) (by omega)
      have hb2 := getD_lt hb (j := Q + 2) (by omega)
      have hb0 := getD_lt hb (j := Q) (by omega)
      have hb1 := getD_lt hb (j := Q + 1) (by omega)
      have hnm : nm2 im Q < 65536 := by rw [nm2]; omega
      refine e_aload_n dd_Md_openEntry_38 rfl ?_
      refine e_iload dd_Md_openEntry_39 rfl ?_
      refine e_callVp (d1 := rr_Md_two) (As := [.int (nI Q)]) (st := []) dd_Md_openEntry_41 km_Md_136 h69b rfl (by decide) rfl (Nat.le_of_ble_eq_true rfl) (Nat.le_of_ble_eq_true rfl) rfl rfl (c_Md_two h2 hI2 (by omega)) ?_
      refine e_iconst_n 1 dd_Md_openEntry_44 (by decide) ?_
      refine e_icmp_lt_n (tgt := 68) dd_Md_openEntry_45 (by decide) (by omega) (by omega) (fun c45 => ?_) (fun c45 => ?_)
      · rw [if_pos ⟨c35, Or.inl c45⟩] at eR
        rw [eR]
        refine e_aload_n dd_Md_openEntry_68 rfl ?_
        refine e_bipush (v := -4) dd_Md_openEntry_69 (by decide) ?_
        refine e_iload dd_Md_openEntry_71 rfl ?_
        refine e_callVi (d1 := rr_Md_stop) (As := [.int (-4), .int (nI Q)]) (st := []) dd_Md_openEntry_73 km_Md_130 h69b rfl (by decide) rfl (Nat.le_of_ble_eq_true rfl) (Nat.le_of_ble_eq_true rfl) rfl rfl (c_Md_stop h2 (-4) (nI Q)) (fun v2 k1 => ?_)
        exact e_iret dd_Md_openEntry_76 rfl (rdF_of ⟨⟨k1.1.1.trans hS2.1, fun j a b => (k1.1.2 j a a).trans (hS2.2 j a b)⟩, ⟨_, k1.2⟩, g1, (k1.1.2 79 (by decide) (by decide)).trans k1g⟩)
      · refine e_aload_n dd_Md_openEntry_48 rfl ?_
        refine e_iload dd_Md_openEntry_49 rfl ?_
        refine e_callVp (d1 := rr_Md_two) (As := [.int (nI Q)]) (st := []) dd_Md_openEntry_51 km_Md_136 h69b rfl (by decide) rfl (Nat.le_of_ble_eq_true rfl) (Nat.le_of_ble_eq_true rfl) rfl rfl (c_Md_two h2 hI2 (by omega)) ?_
        refine e_aload_n dd_Md_openEntry_54 rfl ?_
        refine e_get dd_Md_openEntry_55 kf_Md_31 h69b rfl ?_
        refine e_iload dd_Md_openEntry_58 rfl ?_
        refine e_iconst_n 2 dd_Md_openEntry_60 (by decide) ?_
        refine e_iadd_n dd_Md_openEntry_61 ?_
        refine e_iald dd_Md_openEntry_62 h77 rfl rfl (by omega) (by decide) ?_
        refine e_top (y := nI (im.getD (Q + 2) 0)) hx2 ?_
        refine e_iadd_n dd_Md_openEntry_63 ?_
        refine e_iload_n dd_Md_openEntry_64 rfl ?_
        refine e_icmp_le_n (tgt := 77) dd_Md_openEntry_65 (by decide) (by omega) (by omega) (fun c65 => ?_) (fun c65 => ?_)
        · rw [if_neg (fun h9 => by omega)] at eR
          refine e_iload dd_Md_openEntry_77 rfl ?_
          refine e_iconst_n 3 dd_Md_openEntry_79 (by decide) ?_
          refine e_iadd_n dd_Md_openEntry_80 ?_
          refine e_iload_n dd_Md_openEntry_81 rfl ?_
          refine e_icmp_ge_n (tgt := 110) dd_Md_openEntry_82 (by decide) (by omega) (by omega) (fun c82 => ?_) (fun c82 => ?_)
          · rw [if_neg (fun h9 => absurd h9.1 (by omega)), if_pos (by omega)] at eR
            rw [eR]
            refine e_iload dd_Md_openEntry_110 rfl ?_
            refine e_iconst_n 5 dd_Md_openEntry_112 (by decide) ?_
            refine e_iadd_n dd_Md_openEntry_113 ?_
            refine e_iload_n dd_Md_openEntry_114 rfl ?_
            refine e_icmp_lt_n (tgt := 126) dd_Md_openEntry_115 (by decide) (by omega) (by omega) (fun h9 => absurd h9 (by omega)) (fun _ => ?_)
            refine e_aload_n dd_Md_openEntry_118 rfl ?_
            refine e_bipush (v := -3) dd_Md_openEntry_119 (by decide) ?_
            refine e_iload_n dd_Md_openEntry_121 rfl ?_
            refine e_callVi (d1 := rr_Md_stop) (As := [.int (-3), .int (nI li)]) (st := []) dd_Md_openEntry_122 km_Md_130 h69b rfl (by decide) rfl (Nat.le_of_ble_eq_true rfl) (Nat.le_of_ble_eq_true rfl) rfl rfl (c_Md_stop h2 (-3) (nI li)) (fun v2 k1 => ?_)
            exact e_iret dd_Md_openEntry_125 rfl (rdF_of ⟨⟨k1.1.1.trans hS2.1, fun j a b => (k1.1.2 j a a).trans (hS2.2 j a b)⟩, ⟨_, k1.2⟩, g1, (k1.1.2 79 (by decide) (by decide)).trans k1g⟩)
          · have hx3 := hf77 (Q + 3) (by omega)
            have hb3 := getD_lt hb (j := Q + 3) (by omega)
            refine e_aload_n dd_Md_openEntry_85 rfl ?_
            refine e_get dd_Md_openEntry_86 kf_Md_31 h69b rfl ?_
            refine e_iload dd_Md_openEntry_89 rfl ?_
            refine e_iconst_n 3 dd_Md_openEntry_91 (by decide) ?_
            refine e_iadd_n dd_Md_openEntry_92 ?_
            refine e_iald dd_Md_openEntry_93 h77 rfl rfl (by omega) (by decide) ?_
            refine e_top (y := nI (im.getD (Q + 3) 0)) hx3 ?_
            refine e_bipush_n 60 dd_Md_openEntry_94 (by decide) ?_
            refine e_icmp_le_n (tgt := 110) dd_Md_openEntry_96 (by decide) (by omega) (by omega) (fun c96 => ?_) (fun c96 => ?_)
            · rw [if_neg (fun h9 => absurd h9.2 (by omega))] at eR
              refine e_iload dd_Md_openEntry_110 rfl ?_
              refine e_iconst_n 5 dd_Md_openEntry_112 (by decide) ?_
              refine e_iadd_n dd_Md_openEntry_113 ?_
              refine e_iload_n dd_Md_openEntry_114 rfl ?_
              refine e_icmp_lt_n (tgt := 126) dd_Md_openEntry_115 (by decide) (by omega) (by omega) (fun c115 => ?_) (fun c115 => ?_)
              · rw [if_neg (by omega)] at eR
                have hx2 := hf77 (Q + 2) (by omega)
                have hfo := (hfo0 _ eR).1
                rw [eR]
                refine e_aload_n dd_Md_openEntry_126 rfl ?_
                refine e_aload_n dd_Md_openEntry_127 rfl ?_
                refine e_iload dd_Md_openEntry_128 rfl ?_
                refine e_callVp (d1 := rr_Md_two) (As := [.int (nI Q)]) (st := [.ref 69]) dd_Md_openEntry_130 km_Md_136 h69b rfl (by decide) rfl (Nat.le_of_ble_eq_true rfl) (Nat.le_of_ble_eq_true rfl) rfl rfl (c_Md_two h2 hI2 (by omega)) ?_
                refine e_aload_n dd_Md_openEntry_133 rfl ?_
                refine e_get dd_Md_openEntry_134 kf_Md_31 h69b rfl ?_
                refine e_iload dd_Md_openEntry_137 rfl ?_
                refine e_iconst_n 2 dd_Md_openEntry_139 (by decide) ?_
                refine e_iadd_n dd_Md_openEntry_140 ?_
                refine e_iald dd_Md_openEntry_141 h77 rfl rfl (by omega) (by decide) ?_
                refine e_top (y := nI (im.getD (Q + 2) 0)) hx2 ?_
                refine e_aload_n dd_Md_openEntry_142 rfl ?_
                refine e_get dd_Md_openEntry_143 kf_Md_31 h69b rfl ?_
                refine e_iload dd_Md_openEntry_146 rfl ?_
                refine e_iconst_n 3 dd_Md_openEntry_148 (by decide) ?_
                refine e_iadd_n dd_Md_openEntry_149 ?_
                refine e_iald dd_Md_openEntry_150 h77 rfl rfl (by omega) (by decide) ?_
                refine e_top (y := nI (im.getD (Q + 3) 0)) hx3 ?_
                refine e_aload_n dd_Md_openEntry_151 rfl ?_
                refine e_iload dd_Md_openEntry_152 rfl ?_
                refine e_iconst_n 4 dd_Md_openEntry_154 (by decide) ?_
                refine e_iadd_n dd_Md_openEntry_155 ?_
                refine e_callVp (d1 := rr_Md_two) (As := [.int (nI (Q + 4))]) (st := [.int (nI (im.getD (Q + 3) 0)), .int (nI (im.getD (Q + 2) 0)), .int (nI (nm2 im Q)), .ref 69]) dd_Md_openEntry_156 km_Md_136 h69b rfl (by decide) rfl (Nat.le_of_ble_eq_true rfl) (Nat.le_of_ble_eq_true rfl) rfl rfl (c_Md_two h2 hI2 (by omega)) ?_
                refine e_callVv (d1 := rr_Md_note) (As := [.int (nI (nm2 im Q)), .int (nI (im.getD (Q + 2) 0)), .int (nI (im.getD (Q + 3) 0)), .int (nI (nm2 im (Q + 4)))]) (st := []) dd_Md_openEntry_159 km_Md_139 h69b rfl (by decide) rfl (Nat.le_of_ble_eq_true rfl) (Nat.le_of_ble_eq_true rfl) rfl rfl (c_Md_note h2 k1g h6 _ _ _ _) (fun v2 k2 => ?_)
                refine e_iconst_n 0 dd_Md_openEntry_162 (by decide) ?_
                obtain ⟨k2s, k2o, g2, k2g, n1, n2, n3, n4, n5⟩ := k2
                exact e_iret dd_Md_openEntry_163 rfl (rdS_of (v := fun _ => 0) ⟨hS2.tr k2s, by rw [List.length_append]; exact k2o, by simp; omega, fun q1 hq1 => (List.mem_append.mp hq1).elim (fun h1 => hok q1 h1) (fun h1 => by rw [List.mem_singleton.mp h1]; exact hfo), g2, k2g, acc_snocP hop hok h6 k1G n1 n2 n3 n4 n5⟩)
              · rw [if_pos (by omega)] at eR
                rw [eR]
                refine e_aload_n dd_Md_openEntry_118 rfl ?_
                refine e_bipush (v := -3) dd_Md_openEntry_119 (by decide) ?_
                refine e_iload_n dd_Md_openEntry_121 rfl ?_
                refine e_callVi (d1 := rr_Md_stop) (As := [.int (-3), .int (nI li)]) (st := []) dd_Md_openEntry_122 km_Md_130 h69b rfl (by decide) rfl (Nat.le_of_ble_eq_true rfl) (Nat.le_of_ble_eq_true rfl) rfl rfl (c_Md_stop h2 (-3) (nI li)) (fun v2 k1 => ?_)
                exact e_iret dd_Md_openEntry_125 rfl (rdF_of ⟨⟨k1.1.1.trans hS2.1, fun j a b => (k1.1.2 j a a).trans (hS2.2 j a b)⟩, ⟨_, k1.2⟩, g1, (k1.1.2 79 (by decide) (by decide)).trans k1g⟩)
            · rw [if_pos ⟨c82, c96⟩] at eR
              rw [eR]
              refine e_aload_n dd_Md_openEntry_99 rfl ?_
              refine e_bipush (v := -4) dd_Md_openEntry_100 (by decide) ?_
              refine e_iload dd_Md_openEntry_102 rfl ?_
              refine e_iconst_n 3 dd_Md_openEntry_104 (by decide) ?_
              refine e_iadd_n dd_Md_openEntry_105 ?_
              refine e_callVi (d1 := rr_Md_stop) (As := [.int (-4), .int (nI (Q + 3))]) (st := []) dd_Md_openEntry_106 km_Md_130 h69b rfl (by decide) rfl (Nat.le_of_ble_eq_true rfl) (Nat.le_of_ble_eq_true rfl) rfl rfl (c_Md_stop h2 (-4) (nI (Q + 3))) (fun v2 k1 => ?_)
              exact e_iret dd_Md_openEntry_109 rfl (rdF_of ⟨⟨k1.1.1.trans hS2.1, fun j a b => (k1.1.2 j a a).trans (hS2.2 j a b)⟩, ⟨_, k1.2⟩, g1, (k1.1.2 79 (by decide) (by decide)).trans k1g⟩)
        · rw [if_pos ⟨c35, Or.inr c65⟩] at eR
          rw [eR]
          refine e_aload_n dd_Md_openEntry_68 rfl ?_
          refine e_bipush (v := -4) dd_Md_openEntry_69 (by decide) ?_
          refine e_iload dd_Md_openEntry_71 rfl ?_
          refine e_callVi (d1 := rr_Md_stop) (As := [.int (-4), .int (nI Q)]) (st := []) dd_Md_openEntry_73 km_Md_130 h69b rfl (by decide) rfl (Nat.le_of_ble_eq_true rfl) (Nat.le_of_ble_eq_true rfl) rfl rfl (c_Md_stop h2 (-4) (nI Q)) (fun v2 k1 => ?_)
          exact e_iret dd_Md_openEntry_76 rfl (rdF_of ⟨⟨k1.1.1.trans hS2.1, fun j a b => (k1.1.2 j a a).trans (hS2.2 j a b)⟩, ⟨_, k1.2⟩, g1, (k1.1.2 79 (by decide) (by decide)).trans k1g⟩)
set_option maxRecDepth 100000 in
set_option maxHeartbeats 4000000 in
theorem l_Md_ientries {t d : Nat} {x3 : Int32} (ht : t + 6 = im.length) (hM : im.getD (t + 1) 0 ≤ 6) (hd : d ≤ t) (hI : mA w 77 600 im) : ∀ (k c : Nat) (w1 : ab_W) (acc : List FO), acc.length + k = im.getD (t + 1) 0 → c ≤ t → rS w w1 69 79 → mO w1 nl dl fl (nI im.length) md (nI acc.length) (-1) tk rq → mP w1 acc im.length → ab_E G mm_Md_openIndex rr_Md_openIndex 154 [(0, .ref 69), (1, .int (nI t)), (2, .int (nI d)), (3, .int x3), (4, .int (nI c)), (5, .int (nI acc.length))] [] w1 (rdP (ixF im t d k c acc) (fun _ => 0) (oF w nl dl fl (nI im.length) md tk rq) (oS w nl dl fl (nI im.length) md tk rq im.length)) := by
  intro k
  induction k with
  | zero =>
    intro c w1 acc hk hc hS h hP
    have hI1 := hI.fr hS (by decide) (by decide)
    have h69 : w1.1 69 = _ := h
    obtain ⟨hil, hb, f77, h77, hf77⟩ := id hI1
    obtain ⟨h6, hok, g, h79, hop⟩ := id hP
    have hx1 := hf77 (t + 1) (by omega)
    rw [ixF]
    refine e_iload dd_Md_openIndex_154 rfl ?_
    refine e_aload_n dd_Md_openIndex_156 rfl ?_
    refine e_get dd_Md_openIndex_157 kf_Md_31 h69 rfl ?_
    refine e_iload_n dd_Md_openIndex_160 rfl ?_
    refine e_iconst_n 1 dd_Md_openIndex_161 (by decide) ?_
    refine e_iadd_n dd_Md_openIndex_162 ?_
    refine e_iald dd_Md_openIndex_163 h77 rfl rfl (by omega) (by decide) ?_
    refine e_top (y := nI (im.getD (t + 1) 0)) hx1 ?_
    refine e_icmp_ge_n (tgt := 208) dd_Md_openIndex_164 (by decide) (by omega) (by omega) (fun _ => ?_) (fun h9 => absurd h9 (by omega))
    refine e_iload dd_Md_openIndex_208 rfl ?_
    refine e_iload_n dd_Md_openIndex_210 rfl ?_
    refine e_icmp_ge_n (tgt := 225) dd_Md_openIndex_211 (by decide) (by omega) (by omega) (fun c211 => ?_) (fun c211 => ?_)
    · rw [if_neg (by omega)]
      refine e_iconst_n 0 dd_Md_openIndex_225 (by decide) ?_
      exact e_iret dd_Md_openIndex_226 rfl (rdS_of (v := fun _ => 0) ⟨hS, h, hP⟩)
    · rw [if_pos c211]
      refine e_aload_n dd_Md_openIndex_214 rfl ?_
      refine e_bipush (v := -4) dd_Md_openIndex_215 (by decide) ?_
      refine e_iload dd_Md_openIndex_217 rfl ?_
      refine e_callVi (d1 := rr_Md_stop) (As := [.int (-4), .int (nI c)]) (st := []) dd_Md_openIndex_219 km_Md_130 h69 rfl (by decide) rfl (Nat.le_of_ble_eq_true rfl) (Nat.le_of_ble_eq_true rfl) rfl rfl (c_Md_stop h (-4) (nI c)) (fun v1 k1 => ?_)
      refine e_goto (tgt := 226) dd_Md_openIndex_222 (by decide) ?_
      exact e_iret dd_Md_openIndex_226 rfl (rdF_of ⟨⟨k1.1.1.trans hS.1, fun j a b => (k1.1.2 j a a).trans (hS.2 j a b)⟩, ⟨_, k1.2⟩, g, (k1.1.2 79 (by decide) (by decide)).trans h79⟩)
  | succ k ih =>
    intro c w1 acc hk hc hS h hP
    have hI1 := hI.fr hS (by decide) (by decide)
    have h69 : w1.1 69 = _ := h
    obtain ⟨hil, hb, f77, h77, hf77⟩ := id hI1
    obtain ⟨h6, hok, g, h79, hop⟩ := id hP
    have hx1 := hf77 (t + 1) (by omega)
    rw [ixF]
    have k0 := c_Md_openEntry (G := G) (c := c) (d := d) (li := t) h hI1 hP (by omega) (by omega) (by omega) (by omega)
    refine e_iload dd_Md_openIndex_154 rfl ?_
    refine e_aload_n dd_Md_openIndex_156 rfl ?_
    refine e_get dd_Md_openIndex_157 kf_Md_31 h69 rfl ?_
    refine e_iload_n dd_Md_openIndex_160 rfl ?_
    refine e_iconst_n 1 dd_Md_openIndex_161 (by decide) ?_
    refine e_iadd_n dd_Md_openIndex_162 ?_
    refine e_iald dd_Md_openIndex_163 h77 rfl rfl (by omega) (by decide) ?_
    refine e_top (y := nI (im.getD (t + 1) 0)) hx1 ?_
    refine e_icmp_ge_n (tgt := 208) dd_Md_openIndex_164 (by decide) (by omega) (by omega) (fun h9 => absurd h9 (by omega)) (fun _ => ?_)
    refine e_aload_n dd_Md_openIndex_167 rfl ?_
    refine e_iload dd_Md_openIndex_168 rfl ?_
    refine e_iload_n dd_Md_openIndex_170 rfl ?_
    refine e_iload_n dd_Md_openIndex_171 rfl ?_
    rcases hN : rEn im t d c with e | q
    · rw [rdP_F hN] at k0
      have hlt := rEn_F hN
      refine e_callVi (d1 := rr_Md_openEntry) (As := [.int (nI c), .int (nI d), .int (nI t)]) (st := []) dd_Md_openIndex_172 km_Md_143 h69 rfl (by decide) rfl (Nat.le_of_ble_eq_true rfl) (Nat.le_of_ble_eq_true rfl) rfl rfl (k0) (fun v1 k1 => ?_)
      refine e_istore (lv1 := [(0, .ref 69), (1, .int (nI t)), (2, .int (nI d)), (3, .int x3), (4, .int (nI c)), (5, .int (nI acc.length)), (6, .int e.1)]) dd_Md_openIndex_175 (by decide) rfl ?_
      refine e_iload dd_Md_openIndex_177 rfl ?_
      refine e_if_eq (tgt := 185) dd_Md_openIndex_179 (by decide) (fun h9 => absurd h9 (neg_ne hlt)) (fun _ => ?_)
      refine e_iload dd_Md_openIndex_182 rfl ?_
      exact e_iret dd_Md_openIndex_184 rfl (⟨rfl, ⟨k1.1.1.trans hS.1, fun j a b => (k1.1.2 j a b).trans (hS.2 j a b)⟩, k1.2⟩)
    · rw [rdP_S hN] at k0
      obtain ⟨e1, e2⟩ := rEn_nm hN
      have hrs := rEn_S hb (by omega) (by omega) hN
      refine e_callVi (d1 := rr_Md_openEntry) (As := [.int (nI c), .int (nI d), .int (nI t)]) (st := []) dd_Md_openIndex_172 km_Md_143 h69 rfl (by decide) rfl (Nat.le_of_ble_eq_true rfl) (Nat.le_of_ble_eq_true rfl) rfl rfl (k0) (fun v1 k1 => ?_)
      obtain ⟨k1s, k1o, k1p⟩ := k1
      have h69b : v1.1 69 = _ := k1o
      have h77 := (k1s.2 77 (by decide) (by decide)).trans h77
      have hK : f77 (c + 1) = nI q.1.length := by rw [hf77 _ (by omega), e1]
      have hq8 := hrs.1.2.1
      refine e_istore (lv1 := [(0, .ref 69), (1, .int (nI t)), (2, .int (nI d)), (3, .int x3), (4, .int (nI c)), (5, .int (nI acc.length)), (6, .int (nI 0))]) dd_Md_openIndex_175 (by decide) rfl ?_
      refine e_iload dd_Md_openIndex_177 rfl ?_
      refine e_if_eq_n (tgt := 185) dd_Md_openIndex_179 (by decide) (by omega) (fun _ => ?_) (fun h9 => absurd h9 (by decide))
      refine e_iload dd_Md_openIndex_185 rfl ?_
      refine e_bipush_n 8 dd_Md_openIndex_187 (by decide) ?_
      refine e_aload_n dd_Md_openIndex_189 rfl ?_
      refine e_get dd_Md_openIndex_190 kf_Md_31 h69b rfl ?_
      refine e_iload dd_Md_openIndex_193 rfl ?_
      refine e_iconst_n 1 dd_Md_openIndex_195 (by decide) ?_
      refine e_iadd_n dd_Md_openIndex_196 ?_
      refine e_iald dd_Md_openIndex_197 h77 rfl rfl (by omega) (by decide) ?_
      refine e_top (y := nI q.1.length) hK ?_
      refine e_iadd_n dd_Md_openIndex_198 ?_
      refine e_iadd_n dd_Md_openIndex_199 ?_
      refine e_istore (lv1 := [(0, .ref 69), (1, .int (nI t)), (2, .int (nI d)), (3, .int x3), (4, .int (nI (c + (8 + q.1.length)))), (5, .int (nI acc.length)), (6, .int (nI 0))]) dd_Md_openIndex_200 (by decide) rfl ?_
      refine e_iinc_n (a := acc.length) (k := 1) (lv1 := [(0, .ref 69), (1, .int (nI t)), (2, .int (nI d)), (3, .int x3), (4, .int (nI (c + (8 + q.1.length)))), (5, .int (nI (acc.length + 1))), (6, .int (nI 0))]) dd_Md_openIndex_202 rfl (by decide) (by decide) rfl ?_
      refine e_goto (tgt := 154) dd_Md_openIndex_205 (by decide) ?_
      refine e_rm (lv1 := [(0, .ref 69), (1, .int (nI t)), (2, .int (nI d)), (3, .int x3), (4, .int (nI (c + (8 + q.1.length)))), (5, .int (nI (acc.length + 1)))]) 6 rfl ?_
      have hla : (acc ++ [q]).length = acc.length + 1 := by simp
      have hR := ih (c + 8 + q.1.length) v1 (acc ++ [q]) (by omega) (by omega) (hS.tr k1s) k1o k1p
      rw [hla, show c + 8 + q.1.length = c + (8 + q.1.length) by omega] at hR
      dsimp only
      rw [show c + 8 + q.1.length = c + (8 + q.1.length) by omega]
      exact hR
set_option maxRecDepth 100000 in
set_option maxHeartbeats 4000000 in
theorem l_Md_icrc {t d : Nat} {P : Option Value → ab_W → Prop} (h : mO w nl dl fl ln md op pl tk rq) (hI : mA w 77 600 im) (ht : t ≤ im.length) (R : Nat) (K : ab_E G mm_Md_openIndex rr_Md_openIndex 127 [(0, .ref 69), (1, .int (nI t)), (2, .int (nI d)), (3, .int (nI R)), (4, .int (nI t))] [] w P) : ∀ n j c, j + n = t → c < 65536 → cN im c j n = R → ab_E G mm_Md_openIndex rr_Md_openIndex 103 [(0, .ref 69), (1, .int (nI t)), (2, .int (nI d)), (3, .int (nI c)), (4, .int (nI j))] [] w P := by
  have h69 : w.1 69 = _ := h
  obtain ⟨hl, hb, f77, h77, hf77⟩ := id hI
  intro n
  induction n with
  | zero =>
    intro j c hj hc hR
    have e0 : j = t := by omega
    subst e0
    cases (show c = R from hR)
    refine e_iload dd_Md_openIndex_103 rfl ?_
    refine e_iload_n dd_Md_openIndex_105 rfl ?_
    refine e_icmp_ge_n (tgt := 127) dd_Md_openIndex_106 (by decide) (by omega) (by omega) (fun _ => ?_) (fun h9 => absurd h9 (by omega))
    exact K
  | succ n ih =>
    intro j c hj hc hR
    refine e_iload dd_Md_openIndex_103 rfl ?_
    refine e_iload_n dd_Md_openIndex_105 rfl ?_
    refine e_icmp_ge_n (tgt := 127) dd_Md_openIndex_106 (by decide) (by omega) (by omega) (fun h9 => absurd h9 (by omega)) (fun _ => ?_)
    refine e_iload_n dd_Md_openIndex_109 rfl ?_
    refine e_aload_n dd_Md_openIndex_110 rfl ?_
    refine e_get dd_Md_openIndex_111 kf_Md_31 h69 rfl ?_
    refine e_iload dd_Md_openIndex_114 rfl ?_
    refine e_iald dd_Md_openIndex_116 h77 rfl rfl (by omega) (by decide) ?_
    refine e_top (y := nI (im.getD j 0)) (hf77 j (by omega)) ?_
    refine e_callSp (d1 := rr_Md_checked) (As := [.int (nI c), .int (nI (im.getD j 0))]) (st := []) dd_Md_openIndex_117 km_Md_93 (by decide) rfl (Nat.le_of_ble_eq_true rfl) (Nat.le_of_ble_eq_true rfl) rfl rfl (c_Md_checked hc (getD_lt hb (by omega))) ?_
    refine e_istore_n (lv1 := [(0, .ref 69), (1, .int (nI t)), (2, .int (nI d)), (3, .int (nI (c1 c (im.getD j 0)))), (4, .int (nI j))]) dd_Md_openIndex_120 (by decide) rfl ?_
    refine e_iinc_n (a := j) (k := 1) (lv1 := [(0, .ref 69), (1, .int (nI t)), (2, .int (nI d)), (3, .int (nI (c1 c (im.getD j 0)))), (4, .int (nI (j + 1)))]) dd_Md_openIndex_121 rfl (by decide) (by decide) rfl ?_
    refine e_goto (tgt := 103) dd_Md_openIndex_124 (by decide) ?_
    exact ih (j + 1) _ (by omega) (c1_lt hc) hR
set_option maxRecDepth 100000 in
set_option maxHeartbeats 4000000 in
theorem c_Md_openIndex (h : mO w nl dl fl (nI im.length) md (nI 0) (-1) tk rq) (hI : mA w 77 600 im) (hP : mP w [] im.length) : ab_E G mm_Md_openIndex rr_Md_openIndex 0 [(0, .ref 69)] [] w (rdP (opX im) (fun _ => 0) (oF w nl dl fl (nI im.length) md tk rq) (oS w nl dl fl (nI im.length) md tk rq im.length)) := by
  have h69 : w.1 69 = _ := h
  obtain ⟨hil, hb, f77, h77, hf77⟩ := id hI
  obtain ⟨h6, hok, g, h79, hop⟩ := id hP
  have hS : rS w w 69 79 := rS.rf
  rw [opX]
  refine e_aload_n dd_Md_openIndex_0 rfl ?_
  refine e_get dd_Md_openIndex_1 kf_Md_124 h69 rfl ?_
  refine e_bipush_n 7 dd_Md_openIndex_4 (by decide) ?_
  refine e_icmp_ge_n (tgt := 20) dd_Md_openIndex_6 (by decide) (by omega) (by omega) (fun c6 => ?_) (fun c6 => ?_)
  · rw [if_neg (by omega)]
    generalize htl : im.length - 6 = t
    have ht : t + 6 = im.length := by omega
    have hx0 := hf77 t (by omega)
    have hb0 := getD_lt hb (j := t) (by omega)
    have hx1 := hf77 (t + 1) (by omega)
    have hb1 := getD_lt hb (j := t + 1) (by omega)
    have hb2 := getD_lt hb (j := t + 2) (by omega)
    have hb3 := getD_lt hb (j := t + 2 + 1) (by omega)
    have hb4 := getD_lt hb (j := t + 4) (by omega)
    have hb5 := getD_lt hb (j := t + 4 + 1) (by omega)
    have hD : nm2 im (t + 2) < 65536 := by rw [nm2]; omega
    have hC : nm2 im (t + 4) < 65536 := by rw [nm2]; omega
    have eT : tTl im t = if im.getD t 0 ≠ 88 then .inl (-4, t) else if 6 < im.getD (t + 1) 0 then .inl (-4, t + 1) else if nm2 im (t + 2) < 1 ∨ t < nm2 im (t + 2) then .inl (-4, t + 2) else if crc ((im.drop (nm2 im (t + 2))).take (t - nm2 im (t + 2))) ≠ nm2 im (t + 4) then .inl (-4, t + 4) else .inr 0 := rfl
    refine e_aload_n dd_Md_openIndex_20 rfl ?_
    refine e_get dd_Md_openIndex_21 kf_Md_124 h69 rfl ?_
    refine e_bipush_n 6 dd_Md_openIndex_24 (by decide) ?_
    refine e_isub_n dd_Md_openIndex_26 (by omega) ?_
    refine e_top (y := nI t) (by rw [htl]) ?_
    refine e_istore_n (lv1 := [(0, .ref 69), (1, .int (nI t))]) dd_Md_openIndex_27 (by decide) rfl ?_
    refine e_aload_n dd_Md_openIndex_28 rfl ?_
    refine e_get dd_Md_openIndex_29 kf_Md_31 h69 rfl ?_
    refine e_iload_n dd_Md_openIndex_32 rfl ?_
    refine e_iald dd_Md_openIndex_33 h77 rfl rfl (by omega) (by decide) ?_
    refine e_top (y := nI (im.getD t 0)) hx0 ?_
    refine e_bipush_n 88 dd_Md_openIndex_34 (by decide) ?_
    refine e_icmp_eq_n (tgt := 47) dd_Md_openIndex_36 (by decide) (by omega) (by omega) (fun c36 => ?_) (fun c36 => ?_)
    · rw [if_neg (by omega)] at eT
      refine e_aload_n dd_Md_openIndex_47 rfl ?_
      refine e_get dd_Md_openIndex_48 kf_Md_31 h69 rfl ?_
      refine e_iload_n dd_Md_openIndex_51 rfl ?_
      refine e_iconst_n 1 dd_Md_openIndex_52 (by decide) ?_
      refine e_iadd_n dd_Md_openIndex_53 ?_
      refine e_iald dd_Md_openIndex_54 h77 rfl rfl (by omega) (by decide) ?_
      refine e_top (y := nI (im.getD (t + 1) 0)) hx1 ?_
      refine e_bipush_n 6 dd_Md_openIndex_55 (by decide) ?_
      refine e_icmp_le_n (tgt := 70) dd_Md_openIndex_57 (by decide) (by omega) (by omega) (fun c57 => ?_) (fun c57 => ?_)
      · rw [if_neg (by omega)] at eT
        refine e_aload_n dd_Md_openIndex_70 rfl ?_
        refine e_iload_n dd_Md_openIndex_71 rfl ?_
        refine e_iconst_n 2 dd_Md_openIndex_72 (by decide) ?_
        refine e_iadd_n dd_Md_openIndex_73 ?_
        refine e_callVp (d1 := rr_Md_two) (As := [.int (nI (t + 2))]) (st := []) dd_Md_openIndex_74 km_Md_136 h69 rfl (by decide) rfl (Nat.le_of_ble_eq_true rfl) (Nat.le_of_ble_eq_true rfl) rfl rfl (c_Md_two h hI (by omega)) ?_
        refine e_istore_n (lv1 := [(0, .ref 69), (1, .int (nI t)), (2, .int (nI (nm2 im (t + 2))))]) dd_Md_openIndex_77 (by decide) rfl ?_
        refine e_iload_n dd_Md_openIndex_78 rfl ?_
        refine e_iconst_n 1 dd_Md_openIndex_79 (by decide) ?_
        refine e_iload_n dd_Md_openIndex_80 rfl ?_
        refine e_callSp (d1 := rr_Md_in) (As := [.int (nI (nm2 im (t + 2))), .int (nI 1), .int (nI t)]) (st := []) dd_Md_openIndex_81 km_Md_50 (by decide) rfl (Nat.le_of_ble_eq_true rfl) (Nat.le_of_ble_eq_true rfl) rfl rfl (c_Md_in (nI (nm2 im (t + 2))) (nI 1) (nI t)) ?_
        refine e_top (y := bI (decide (1 ≤ nm2 im (t + 2) ∧ nm2 im (t + 2) ≤ t))) (congrArg bI (decide_eq_decide.mpr (and_congr (nI_leI (by decide) (by omega)) (nI_leI (by omega) (by omega))))) ?_
        refine e_if_ne_b (tgt := 97) dd_Md_openIndex_84 (by decide) (fun c84 => ?_) (fun c84 => ?_)
        · have c84 := of_decide_eq_true c84
          rw [if_neg (by omega)] at eT
          generalize nm2 im (t + 2) = D at hD c84 eT
          have ecr : cN im 65535 D (t - D) = crc ((im.drop D).take (t - D)) := cN_fold im _ _ _ (by omega)
          rw [← ecr] at eT
          have hcl := cN_lt (xs := im) (t - D) 65535 D (by decide)
          generalize hcc : cN im 65535 D (t - D) = C at eT hcl
          refine e_ldc (v := 65535) dd_Md_openIndex_97 ww_606 ?_
          refine e_top (y := nI 65535) (by decide) ?_
          refine e_istore_n (lv1 := [(0, .ref 69), (1, .int (nI t)), (2, .int (nI D)), (3, .int (nI 65535))]) dd_Md_openIndex_99 (by decide) rfl ?_
          refine e_iload_n dd_Md_openIndex_100 rfl ?_
          refine e_istore (lv1 := [(0, .ref 69), (1, .int (nI t)), (2, .int (nI D)), (3, .int (nI 65535)), (4, .int (nI D))]) dd_Md_openIndex_101 (by decide) rfl ?_
          refine l_Md_icrc h hI (by omega) C ?_ (t - D) D 65535 (by omega) (by decide) hcc
          refine e_iload_n dd_Md_openIndex_127 rfl ?_
          refine e_aload_n dd_Md_openIndex_128 rfl ?_
          refine e_iload_n dd_Md_openIndex_129 rfl ?_
          refine e_iconst_n 4 dd_Md_openIndex_130 (by decide) ?_
          refine e_iadd_n dd_Md_openIndex_131 ?_
          refine e_callVp (d1 := rr_Md_two) (As := [.int (nI (t + 4))]) (st := [.int (nI C)]) dd_Md_openIndex_132 km_Md_136 h69 rfl (by decide) rfl (Nat.le_of_ble_eq_true rfl) (Nat.le_of_ble_eq_true rfl) rfl rfl (c_Md_two h hI (by omega)) ?_
          refine e_icmp_eq_n (tgt := 148) dd_Md_openIndex_135 (by decide) (by omega) (by omega) (fun c135 => ?_) (fun c135 => ?_)
          · rw [if_neg (by omega)] at eT
            rw [eT]
            refine e_iload_n dd_Md_openIndex_148 rfl ?_
            refine e_istore (lv1 := [(0, .ref 69), (1, .int (nI t)), (2, .int (nI D)), (3, .int (nI C)), (4, .int (nI D))]) dd_Md_openIndex_149 (by decide) rfl ?_
            refine e_iconst_n 0 dd_Md_openIndex_151 (by decide) ?_
            refine e_istore (lv1 := [(0, .ref 69), (1, .int (nI t)), (2, .int (nI D)), (3, .int (nI C)), (4, .int (nI D)), (5, .int (nI 0))]) dd_Md_openIndex_152 (by decide) rfl ?_
            exact l_Md_ientries ht (by omega) (by omega) hI _ D w [] (by simp) (by omega) rS.rf h hP
          · rw [if_pos (by omega)] at eT
            rw [eT]
            refine e_aload_n dd_Md_openIndex_138 rfl ?_
            refine e_bipush (v := -4) dd_Md_openIndex_139 (by decide) ?_
            refine e_iload_n dd_Md_openIndex_141 rfl ?_
            refine e_iconst_n 4 dd_Md_openIndex_142 (by decide) ?_
            refine e_iadd_n dd_Md_openIndex_143 ?_
            refine e_callVi (d1 := rr_Md_stop) (As := [.int (-4), .int (nI (t + 4))]) (st := []) dd_Md_openIndex_144 km_Md_130 h69 rfl (by decide) rfl (Nat.le_of_ble_eq_true rfl) (Nat.le_of_ble_eq_true rfl) rfl rfl (c_Md_stop h (-4) (nI (t + 4))) (fun v1 k1 => ?_)
            exact e_iret dd_Md_openIndex_147 rfl (rdF_of ⟨⟨k1.1.1.trans hS.1, fun j a b => (k1.1.2 j a a).trans (hS.2 j a b)⟩, ⟨_, k1.2⟩, g, (k1.1.2 79 (by decide) (by decide)).trans h79⟩)
        · have c84 := of_decide_eq_false c84
          rw [if_pos (by omega)] at eT
          rw [eT]
          refine e_aload_n dd_Md_openIndex_87 rfl ?_
          refine e_bipush (v := -4) dd_Md_openIndex_88 (by decide) ?_
          refine e_iload_n dd_Md_openIndex_90 rfl ?_
          refine e_iconst_n 2 dd_Md_openIndex_91 (by decide) ?_
          refine e_iadd_n dd_Md_openIndex_92 ?_
          refine e_callVi (d1 := rr_Md_stop) (As := [.int (-4), .int (nI (t + 2))]) (st := []) dd_Md_openIndex_93 km_Md_130 h69 rfl (by decide) rfl (Nat.le_of_ble_eq_true rfl) (Nat.le_of_ble_eq_true rfl) rfl rfl (c_Md_stop h (-4) (nI (t + 2))) (fun v1 k1 => ?_)
          exact e_iret dd_Md_openIndex_96 rfl (rdF_of ⟨⟨k1.1.1.trans hS.1, fun j a b => (k1.1.2 j a a).trans (hS.2 j a b)⟩, ⟨_, k1.2⟩, g, (k1.1.2 79 (by decide) (by decide)).trans h79⟩)
      · rw [if_pos (by omega)] at eT
        rw [eT]
        refine e_aload_n dd_Md_openIndex_60 rfl ?_
        refine e_bipush (v := -4) dd_Md_openIndex_61 (by decide) ?_
        refine e_iload_n dd_Md_openIndex_63 rfl ?_
        refine e_iconst_n 1 dd_Md_openIndex_64 (by decide) ?_
        refine e_iadd_n dd_Md_openIndex_65 ?_
        refine e_callVi (d1 := rr_Md_stop) (As := [.int (-4), .int (nI (t + 1))]) (st := []) dd_Md_openIndex_66 km_Md_130 h69 rfl (by decide) rfl (Nat.le_of_ble_eq_true rfl) (Nat.le_of_ble_eq_true rfl) rfl rfl (c_Md_stop h (-4) (nI (t + 1))) (fun v1 k1 => ?_)
        exact e_iret dd_Md_openIndex_69 rfl (rdF_of ⟨⟨k1.1.1.trans hS.1, fun j a b => (k1.1.2 j a a).trans (hS.2 j a b)⟩, ⟨_, k1.2⟩, g, (k1.1.2 79 (by decide) (by decide)).trans h79⟩)
    · rw [if_pos c36] at eT
      rw [eT]
      refine e_aload_n dd_Md_openIndex_39 rfl ?_
      refine e_bipush (v := -4) dd_Md_openIndex_40 (by decide) ?_
      refine e_iload_n dd_Md_openIndex_42 rfl ?_
      refine e_callVi (d1 := rr_Md_stop) (As := [.int (-4), .int (nI t)]) (st := []) dd_Md_openIndex_43 km_Md_130 h69 rfl (by decide) rfl (Nat.le_of_ble_eq_true rfl) (Nat.le_of_ble_eq_true rfl) rfl rfl (c_Md_stop h (-4) (nI t)) (fun v1 k1 => ?_)
      exact e_iret dd_Md_openIndex_46 rfl (rdF_of ⟨⟨k1.1.1.trans hS.1, fun j a b => (k1.1.2 j a a).trans (hS.2 j a b)⟩, ⟨_, k1.2⟩, g, (k1.1.2 79 (by decide) (by decide)).trans h79⟩)
  · rw [if_pos c6]
    refine e_aload_n dd_Md_openIndex_9 rfl ?_
    refine e_bipush (v := -3) dd_Md_openIndex_10 (by decide) ?_
    refine e_aload_n dd_Md_openIndex_12 rfl ?_
    refine e_get dd_Md_openIndex_13 kf_Md_124 h69 rfl ?_
    refine e_callVi (d1 := rr_Md_stop) (As := [.int (-3), .int (nI im.length)]) (st := []) dd_Md_openIndex_16 km_Md_130 h69 rfl (by decide) rfl (Nat.le_of_ble_eq_true rfl) (Nat.le_of_ble_eq_true rfl) rfl rfl (c_Md_stop h (-3) (nI im.length)) (fun v1 k1 => ?_)
    exact e_iret dd_Md_openIndex_19 rfl (rdF_of ⟨⟨k1.1.1.trans hS.1, fun j a b => (k1.1.2 j a a).trans (hS.2 j a b)⟩, ⟨_, k1.2⟩, g, (k1.1.2 79 (by decide) (by decide)).trans h79⟩)
end MD
